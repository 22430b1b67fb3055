set_option maxRecDepth 100000 in
set_option maxHeartbeats 4000000 in
theorem cX6_pick_14 (l : Launch) (G : va_G) (cy : Nat → ClassId) (ev : Ew) (K ln : Nat → Nat) (Ls : List Nat) (hW : SW K ln Ls) (sz : Nat) (hp0 : Nat → Nat → Value) (ok0 : Ok K hp0) (qa900 : Nat) (zi901 : Int32) (zi902 : Int32) (wl903 : Int64) (kd900 : K qa900 = 7) (bd901 : ((1 : Int) ≤ zi901.toInt ∧ zi901.toInt ≤ 15)) : Met l yX6_pick (WS yX6_pick cX6_pick 9 (some .int)) { frames := 15, cells := 0, slots := 0, locals := 414 } (PB2 [.ref qa900, .int zi901, .int zi902, .long wl903] sz G cy ev (va_pl Ls (cellOf cy K ln hp0))) (QBi (S := (Nat → Nat → Value)) (fun (r : Int32) (u : (Nat → Nat → Value)) => Ok K u ∧ Fr [] K hp0 u) G (fun u => va_pl Ls (cellOf cy K ln u)) (va_A (va_pl Ls (cellOf cy K ln hp0)) sz)) 0 0 (va_A (va_pl Ls (cellOf cy K ln hp0)) sz) := by
  refine met_of2 (y := yX6_pick) (L := 9) (av := [.ref qa900, .int zi901, .int zi902, .long wl903]) (Qc := fun A => QBi (S := (Nat → Nat → Value)) (fun (r : Int32) (u : (Nat → Nat → Value)) => Ok K u ∧ Fr [] K hp0 u) G (fun u => va_pl Ls (cellOf cy K ln u)) A) (plainFor_of_name (by decide)) (Nat.le_of_ble_eq_true rfl) ?_
  intro p e s m below meth c hsz hx hb hr hml hown hT hlocks hin hK A hA hE hw hS ls hl
  have hw : PW G cy K ln Ls A hp0 s.heap := hw
  have hown : s.vm.findClass "LieClock$Sets" = some m.cls := hown
  have hl : lv_has ls 9 [(0, .ref qa900), (1, .int zi901), (2, .int zi902), (3, .long wl903)] := hl
  obtain ⟨Q, hQ⟩ : ∃ Q : State → Prop, Q = MQ below (QBi (S := (Nat → Nat → Value)) (fun (r : Int32) (u : (Nat → Nat → Value)) => Ok K u ∧ Fr [] K hp0 u) G (fun u => va_pl Ls (cellOf cy K ln u)) A) ([.ref qa900, .int zi901, .int zi902, .long wl903] : List Value).toArray s 0 0 A := ⟨_, rfl⟩
  rw [← hQ]
  refine lv_iload_n hx hb dX6_pick_0 rfl (lv_at hl 1 rfl) ?_
  refine lv_iconst (v := 1) hx hb dX6_pick_1 (by decide) ?_
  refine lv_isub hx hb dX6_pick_2 (lv_topi (fun zi1 ea2 => ?_))
  have bd3 : (0 : Int) ≤ zi1.toInt ∧ zi1.toInt ≤ 14 := b_isub ea2 bd901 bc_1 (by decide) (by decide) (by decide) (by decide)
  have qe4 : zi1.toInt = (zi901 : Int32).toInt - (1 : Int32).toInt := e_isub ea2 bd901 bc_1 (by decide) (by decide)
  have qe5 : zi1.toInt = zi901.toInt - 1 := by have ha : (1 : Int32).toInt = 1 := (by decide); rw [ha] at qe4; exact qe4
  refine lv_istore (lv' := [(5, .int zi1), (0, .ref qa900), (1, .int zi901), (2, .int zi902), (3, .long wl903)]) hx hb dX6_pick_3 hl (by decide) rfl (fun ls hl => ?_)
  have lp526 : ∀ (n524 : Nat) (zi352 : Int32) (H : Heap) (locs : List Loc) (ls : Array Slot), 16 - zi352.toInt < (n524 : Int) → ((0 : Int) ≤ zi352.toInt ∧ zi352.toInt ≤ 16) → lv_has ls 9 [(0, .ref qa900), (1, .int zi901), (2, .int zi902), (3, .long wl903), (5, .int zi352)] → PW G cy K ln Ls A hp0 H → va_S A s.heap H locs → W p l e ({ frames := 15, cells := 0, slots := 0, locals := 414 } : Room) s m ([.ref qa900, .int zi901, .int zi902, .long wl903] : List Value).toArray below meth c H locs 0 0 Q (F0 m 5 ls []) := by
    intro n524
    induction n524 with
    | zero =>
      intro zi352 H locs ls hm527 bd353 hl hw hS
      exact absurd hm527 (by have := bd353; omega)
    | succ n524 ih525 =>
      intro zi352 H locs ls hm527 bd353 hl hw hS
      refine lv_iload hx hb dX6_pick_5 (lv_at hl 4 rfl) ?_
      refine lv_if_lt (tgt := 114) hx hb dX6_pick_7 (by decide) (fun c => absurd c (d_nlt bd353 bc_0 (by decide))) (fun _ => ?_)
      refine lv_iload hx hb dX6_pick_10 (lv_at hl 4 rfl) ?_
      refine lv_iload_n hx hb dX6_pick_12 rfl (lv_at hl 2 rfl) ?_
      refine lv_icmp_ge (tgt := 114) hx hb dX6_pick_13 (by decide) (fun cn528 => ?_) (fun cn528 => ?_)
      · skip
        have bd529 : (-2147483648 : Int) ≤ zi902.toInt ∧ zi902.toInt ≤ 16 := r_le_x cn528 (b_all zi902) bd353 (by decide) (by decide)
        refine lv_iconst (v := 0) hx hb dX6_pick_114 (by decide) ?_
        rw [hQ]
        exact kz_i hx hb hr hlocks hS rfl hp0 hw ⟨ok0, (Fr.rf)⟩ (Nat.le_of_ble_eq_true rfl) (Nat.le_of_ble_eq_true rfl) dX6_pick_115
      · skip
        have bd530 : (1 : Int) ≤ zi902.toInt ∧ zi902.toInt ≤ 2147483647 := r_lt_y (Int32.not_le.mp cn528) bd353 (b_all zi902) (by decide) (by decide)
        refine lv_iload hx hb dX6_pick_16 (lv_at hl 4 rfl) ?_
        refine lv_aload_n hx hb dX6_pick_18 rfl (lv_at hl 0 rfl) ?_
        obtain ⟨zi532, eq531, bd533⟩ := rd_7003 ok0 kd900
        refine p_get (ci := 6) (v := .int zi532) (C := RX6) (T := TX6) (N := 6) hx hb hT iw_X6 hown hK hw hW kd900 (by decide) rfl rfl 3 (by decide) eq531 (hT _ tb_531) (fun _ h9 => h9) dX6_pick_19 ?_
        refine lv_icmp_ge (tgt := 114) hx hb dX6_pick_22 (by decide) (fun cn534 => ?_) (fun cn534 => ?_)
        · skip
          refine lv_iconst (v := 0) hx hb dX6_pick_114 (by decide) ?_
          rw [hQ]
          exact kz_i hx hb hr hlocks hS rfl hp0 hw ⟨ok0, (Fr.rf)⟩ (Nat.le_of_ble_eq_true rfl) (Nat.le_of_ble_eq_true rfl) dX6_pick_115
        · skip
          have bd535 : (0 : Int) ≤ zi352.toInt ∧ zi352.toInt ≤ 15 := r_lt_x (Int32.not_le.mp cn534) bd353 bd533 (by decide) (by decide)
          have bd536 : (1 : Int) ≤ zi532.toInt ∧ zi532.toInt ≤ 16 := r_lt_y (Int32.not_le.mp cn534) bd353 bd533 (by decide) (by decide)
          refine lv_lload_n hx hb dX6_pick_25 rfl (lv_at hl 3 rfl) ?_
          refine lv_aload_n hx hb dX6_pick_26 rfl (lv_at hl 0 rfl) ?_
          obtain ⟨qa538, eq537, kd539⟩ := rd_7000 ok0 kd900
          refine p_get (ci := 6) (v := .ref qa538) (C := RX6) (T := TX6) (N := 6) hx hb hT iw_X6 hown hK hw hW kd900 (by decide) rfl rfl 0 (by decide) eq537 (hT _ tb_528) (fun _ h9 => h9) dX6_pick_27 ?_
          refine lv_iload hx hb dX6_pick_30 (lv_at hl 4 rfl) ?_
          obtain ⟨wl541, eq540⟩ := rd_37000 ok0 kd539 ((zi352 : Int32).toNatClampNeg)
          refine p_lald (v := wl541) hx hb hK hw hW kd539 (by decide) rfl (hW.len kd539 (n := 16) rfl (by decide)) (vp_b bd535 (by decide) (by decide)) eq540 dX6_pick_32 ?_
          refine lv_land hx hb dX6_pick_33 (lv_topl (fun wl542 _ => ?_))
          refine lv_lstore (lv' := [(6, .long wl542), (0, .ref qa900), (1, .int zi901), (2, .int zi902), (3, .long wl903), (5, .int zi352)]) hx hb dX6_pick_34 hl (by decide) rfl (fun ls hl => ?_)
          refine lv_iload_n hx hb dX6_pick_36 rfl (lv_at hl 2 rfl) ?_
          refine lv_iconst (v := 1) hx hb dX6_pick_37 (by decide) ?_
          refine lv_icmp_ne (tgt := 60) hx hb dX6_pick_38 (by decide) (fun cn543 => ?_) (fun cn543 => ?_)
          · skip
            have bd544 : (2 : Int) ≤ zi901.toInt ∧ zi901.toInt ≤ 15 := r_ne_lo cn543 bd901 (toi bc_1) (by decide) (by decide)
            refine lv_aload_n hx hb dX6_pick_60 rfl (lv_at hl 1 rfl) ?_
            refine lv_lload hx hb dX6_pick_61 (lv_at hl 0 rfl) ?_
            refine lv_aload_n hx hb dX6_pick_63 rfl (lv_at hl 1 rfl) ?_
            obtain ⟨qa546, eq545, kd547⟩ := rd_7002 ok0 kd900
            refine p_get (ci := 6) (v := .ref qa546) (C := RX6) (T := TX6) (N := 6) hx hb hT iw_X6 hown hK hw hW kd900 (by decide) rfl rfl 2 (by decide) eq545 (hT _ tb_530) (fun _ h9 => h9) dX6_pick_64 ?_
            refine lv_iload hx hb dX6_pick_67 (lv_at hl 5 rfl) ?_
            obtain ⟨wl549, eq548⟩ := rd_39000 ok0 kd547 ((zi352 : Int32).toNatClampNeg)
            refine p_lald (v := wl549) hx hb hK hw hW kd547 (by decide) rfl (hW.len kd547 (n := 17) rfl (by decide)) (vp_b bd535 (by decide) (by decide)) eq548 dX6_pick_69 ?_
            refine lv_land hx hb dX6_pick_70 (lv_topl (fun wl550 _ => ?_))
            refine kq_i hw hS hA (va_runV (As := [.long wl550]) (rest := []) ⟨hx, hb, hml, hown, hT⟩ (cX6_isEnough_0 l G cy ev K ln Ls hW _ hp0 ok0 qa900 wl550 kd900) (cwV 1 hT (good_V tb_1272 tb_1269 tb_1271 tb_43 tb_118) rfl rfl rfl (by decide +kernel) ⟨Nat.le_of_ble_eq_true rfl, Nat.le_of_ble_eq_true rfl⟩) (pool_preV (ci := 6) hK hE hS hA hw hW kd900 (by decide) rfl) rfl rfl hl.1 rfl (lv_room (Nat.le_of_ble_eq_true rfl)) dX6_pick_71 ⟨Nat.le_of_ble_eq_true rfl, Nat.le_of_ble_eq_true rfl⟩) (fun zi555 hp551 H locs hq554 hw hS => ?_)
            obtain ⟨ok552, F553, bd556⟩ := hq554
            obtain rfl : hp0 = hp551 := (Fr.nil F553).symm
            have hw : PW G cy K ln Ls A hp0 H := hw
            refine lv_if_eq (tgt := 108) hx hb dX6_pick_74 (by decide) (fun cn557 => ?_) (fun cn557 => ?_)
            · skip
              have bd558 : (0 : Int) ≤ zi555.toInt ∧ zi555.toInt ≤ 0 := r_eq_x cn557 bd556 bc_0 (by decide) (by decide)
              obtain ⟨zi559, ea560⟩ : ∃ z : Int32, z = zi352 + 1 := ⟨_, rfl⟩
              have bd561 : (1 : Int) ≤ zi559.toInt ∧ zi559.toInt ≤ 16 := b_iadd ea560 bd535 bc_1 (by decide) (by decide) (by decide) (by decide)
              have qe562 : zi559.toInt = (zi352 : Int32).toInt + (1 : Int32).toInt := e_iadd ea560 bd535 bc_1 (by decide) (by decide)
              have qe563 : zi559.toInt = zi352.toInt + 1 := by have ha : (1 : Int32).toInt = 1 := (by decide); rw [ha] at qe562; exact qe562
              refine lv_iinc (v := zi559) (lv' := [(5, .int zi559), (6, .long wl542), (0, .ref qa900), (1, .int zi901), (2, .int zi902), (3, .long wl903)]) hx hb dX6_pick_108 hl (k := 5) rfl ea560.symm (by decide) rfl (fun ls hl => ?_)
              refine lv_goto (tgt := 5) hx hb dX6_pick_111 (by decide) ?_
              exact ih525 zi559 _ _ ls (by have := hm527; have := qe563; omega) (b_wid2 bd561 (by decide) (by decide)) (lv_sub hl [2, 3, 4, 5, 0] rfl) hw hS
            · skip
              have bd564 : (1 : Int) ≤ zi555.toInt ∧ zi555.toInt ≤ 1 := r_ne_lo cn557 bd556 (toi bc_0) (by decide) (by decide)
              refine lv_aload_n hx hb dX6_pick_77 rfl (lv_at hl 1 rfl) ?_
              refine lv_iload_n hx hb dX6_pick_78 rfl (lv_at hl 2 rfl) ?_
              refine lv_iconst (v := 1) hx hb dX6_pick_79 (by decide) ?_
              refine lv_isub hx hb dX6_pick_80 (lv_topi (fun zi565 ea566 => ?_))
              have bd567 : (1 : Int) ≤ zi565.toInt ∧ zi565.toInt ≤ 14 := b_isub ea566 bd544 bc_1 (by decide) (by decide) (by decide) (by decide)
              have qe568 : zi565.toInt = (zi901 : Int32).toInt - (1 : Int32).toInt := e_isub ea566 bd544 bc_1 (by decide) (by decide)
              have qe569 : zi565.toInt = zi901.toInt - 1 := by have ha : (1 : Int32).toInt = 1 := (by decide); rw [ha] at qe568; exact qe568
              refine lv_iload hx hb dX6_pick_81 (lv_at hl 5 rfl) ?_
              refine lv_lload hx hb dX6_pick_83 (lv_at hl 0 rfl) ?_
              refine kq_i hw hS hA (va_runV (As := [.int zi565, .int zi352, .long wl542]) (rest := []) ⟨hx, hb, hml, hown, hT⟩ (cX6_pick_13 l G cy ev K ln Ls hW _ hp0 ok0 qa900 zi565 zi352 wl542 kd900 (b_wid2 bd567 (by decide) (by decide))) (cwV 3 hT (good_V tb_1277 tb_1274 tb_1276 tb_44 tb_118) rfl rfl rfl (by decide +kernel) ⟨Nat.le_of_ble_eq_true rfl, Nat.le_of_ble_eq_true rfl⟩) (pool_preV (ci := 6) hK hE hS hA hw hW kd900 (by decide) rfl) rfl rfl hl.1 rfl (lv_room (Nat.le_of_ble_eq_true rfl)) dX6_pick_85 ⟨Nat.le_of_ble_eq_true rfl, Nat.le_of_ble_eq_true rfl⟩) (fun zi574 hp570 H locs hq573 hw hS => ?_)
              obtain ⟨ok571, F572⟩ := hq573
              obtain rfl : hp0 = hp570 := (Fr.nil F572).symm
              have hw : PW G cy K ln Ls A hp0 H := hw
              refine lv_istore (lv' := [(8, .int zi574), (6, .long wl542), (0, .ref qa900), (1, .int zi901), (2, .int zi902), (3, .long wl903), (5, .int zi352)]) hx hb dX6_pick_88 hl (by decide) rfl (fun ls hl => ?_)
              refine lv_iload hx hb dX6_pick_90 (lv_at hl 0 rfl) ?_
              refine lv_if_eq (tgt := 108) hx hb dX6_pick_92 (by decide) (fun cn575 => ?_) (fun cn575 => ?_)
              · skip
                have bd576 : (0 : Int) ≤ zi574.toInt ∧ zi574.toInt ≤ 0 := r_eq_x cn575 (b_all zi574) bc_0 (by decide) (by decide)
                obtain ⟨zi577, ea578⟩ : ∃ z : Int32, z = zi352 + 1 := ⟨_, rfl⟩
                have bd579 : (1 : Int) ≤ zi577.toInt ∧ zi577.toInt ≤ 16 := b_iadd ea578 bd535 bc_1 (by decide) (by decide) (by decide) (by decide)
                have qe580 : zi577.toInt = (zi352 : Int32).toInt + (1 : Int32).toInt := e_iadd ea578 bd535 bc_1 (by decide) (by decide)
                have qe581 : zi577.toInt = zi352.toInt + 1 := by have ha : (1 : Int32).toInt = 1 := (by decide); rw [ha] at qe580; exact qe580
                refine lv_iinc (v := zi577) (lv' := [(5, .int zi577), (8, .int zi574), (6, .long wl542), (0, .ref qa900), (1, .int zi901), (2, .int zi902), (3, .long wl903)]) hx hb dX6_pick_108 hl (k := 6) rfl ea578.symm (by decide) rfl (fun ls hl => ?_)
                refine lv_goto (tgt := 5) hx hb dX6_pick_111 (by decide) ?_
                exact ih525 zi577 _ _ ls (by have := hm527; have := qe581; omega) (b_wid2 bd579 (by decide) (by decide)) (lv_sub hl [3, 4, 5, 6, 0] rfl) hw hS
              · skip
                refine lv_iload hx hb dX6_pick_95 (lv_at hl 0 rfl) ?_
                refine lv_iconst (v := 1) hx hb dX6_pick_97 (by decide) ?_
                refine lv_aload_n hx hb dX6_pick_98 rfl (lv_at hl 2 rfl) ?_
                obtain ⟨qa583, eq582, kd584⟩ := rd_7001 ok0 kd900
                refine p_get (ci := 6) (v := .ref qa583) (C := RX6) (T := TX6) (N := 6) hx hb hT iw_X6 hown hK hw hW kd900 (by decide) rfl rfl 1 (by decide) eq582 (hT _ tb_529) (fun _ h9 => h9) dX6_pick_99 ?_
                refine lv_iload hx hb dX6_pick_102 (lv_at hl 6 rfl) ?_
                obtain ⟨zi586, eq585⟩ := rd_38000 ok0 kd584 ((zi352 : Int32).toNatClampNeg)
                refine p_iald (v := zi586) hx hb hK hw hW kd584 (by decide) rfl (hW.len kd584 (n := 16) rfl (by decide)) (vp_b bd535 (by decide) (by decide)) eq585 dX6_pick_104 ?_
                refine lv_ishl hx hb dX6_pick_105 (lv_topi (fun zi587 ea588 => ?_))
                refine lv_ior hx hb dX6_pick_106 (lv_topi (fun zi589 ea590 => ?_))
                rw [hQ]
                exact kz_i hx hb hr hlocks hS rfl hp0 hw ⟨ok0, (Fr.rf)⟩ (Nat.le_of_ble_eq_true rfl) (Nat.le_of_ble_eq_true rfl) dX6_pick_107
          · skip
            have bd591 : (1 : Int) ≤ zi901.toInt ∧ zi901.toInt ≤ 1 := r_eq_x cn543 bd901 bc_1 (by decide) (by decide)
            refine lv_aload_n hx hb dX6_pick_41 rfl (lv_at hl 1 rfl) ?_
            refine lv_lload hx hb dX6_pick_42 (lv_at hl 0 rfl) ?_
            refine kq_i hw hS hA (va_runV (As := [.long wl542]) (rest := []) ⟨hx, hb, hml, hown, hT⟩ (cX6_isEnough_0 l G cy ev K ln Ls hW _ hp0 ok0 qa900 wl542 kd900) (cwV 1 hT (good_V tb_1272 tb_1269 tb_1271 tb_43 tb_118) rfl rfl rfl (by decide +kernel) ⟨Nat.le_of_ble_eq_true rfl, Nat.le_of_ble_eq_true rfl⟩) (pool_preV (ci := 6) hK hE hS hA hw hW kd900 (by decide) rfl) rfl rfl hl.1 rfl (lv_room (Nat.le_of_ble_eq_true rfl)) dX6_pick_44 ⟨Nat.le_of_ble_eq_true rfl, Nat.le_of_ble_eq_true rfl⟩) (fun zi596 hp592 H locs hq595 hw hS => ?_)
            obtain ⟨ok593, F594, bd597⟩ := hq595
            obtain rfl : hp0 = hp592 := (Fr.nil F594).symm
            have hw : PW G cy K ln Ls A hp0 H := hw
            refine lv_if_eq (tgt := 108) hx hb dX6_pick_47 (by decide) (fun cn598 => ?_) (fun cn598 => ?_)
            · skip
              have bd599 : (0 : Int) ≤ zi596.toInt ∧ zi596.toInt ≤ 0 := r_eq_x cn598 bd597 bc_0 (by decide) (by decide)
              obtain ⟨zi600, ea601⟩ : ∃ z : Int32, z = zi352 + 1 := ⟨_, rfl⟩
              have bd602 : (1 : Int) ≤ zi600.toInt ∧ zi600.toInt ≤ 16 := b_iadd ea601 bd535 bc_1 (by decide) (by decide) (by decide) (by decide)
              have qe603 : zi600.toInt = (zi352 : Int32).toInt + (1 : Int32).toInt := e_iadd ea601 bd535 bc_1 (by decide) (by decide)
              have qe604 : zi600.toInt = zi352.toInt + 1 := by have ha : (1 : Int32).toInt = 1 := (by decide); rw [ha] at qe603; exact qe603
              refine lv_iinc (v := zi600) (lv' := [(5, .int zi600), (6, .long wl542), (0, .ref qa900), (1, .int zi901), (2, .int zi902), (3, .long wl903)]) hx hb dX6_pick_108 hl (k := 5) rfl ea601.symm (by decide) rfl (fun ls hl => ?_)
              refine lv_goto (tgt := 5) hx hb dX6_pick_111 (by decide) ?_
              exact ih525 zi600 _ _ ls (by have := hm527; have := qe604; omega) (b_wid2 bd602 (by decide) (by decide)) (lv_sub hl [2, 3, 4, 5, 0] rfl) hw hS
            · skip
              have bd605 : (1 : Int) ≤ zi596.toInt ∧ zi596.toInt ≤ 1 := r_ne_lo cn598 bd597 (toi bc_0) (by decide) (by decide)
              refine lv_iconst (v := 1) hx hb dX6_pick_50 (by decide) ?_
              refine lv_aload_n hx hb dX6_pick_51 rfl (lv_at hl 1 rfl) ?_
              obtain ⟨qa607, eq606, kd608⟩ := rd_7001 ok0 kd900
              refine p_get (ci := 6) (v := .ref qa607) (C := RX6) (T := TX6) (N := 6) hx hb hT iw_X6 hown hK hw hW kd900 (by decide) rfl rfl 1 (by decide) eq606 (hT _ tb_529) (fun _ h9 => h9) dX6_pick_52 ?_
              refine lv_iload hx hb dX6_pick_55 (lv_at hl 5 rfl) ?_
              obtain ⟨zi610, eq609⟩ := rd_38000 ok0 kd608 ((zi352 : Int32).toNatClampNeg)
              refine p_iald (v := zi610) hx hb hK hw hW kd608 (by decide) rfl (hW.len kd608 (n := 16) rfl (by decide)) (vp_b bd535 (by decide) (by decide)) eq609 dX6_pick_57 ?_
              refine lv_ishl hx hb dX6_pick_58 (lv_topi (fun zi611 ea612 => ?_))
              rw [hQ]
              exact kz_i hx hb hr hlocks hS rfl hp0 hw ⟨ok0, (Fr.rf)⟩ (Nat.le_of_ble_eq_true rfl) (Nat.le_of_ble_eq_true rfl) dX6_pick_59
  exact lp526 _ zi1 _ _ ls (lp_in _) (b_wid2 bd3 (by decide) (by decide)) (lv_sub hl [1, 2, 3, 4, 0] rfl) hw hS

set_option maxRecDepth 100000 in
set_option maxHeartbeats 4000000 in
theorem cX6_pick_15 (l : Launch) (G : va_G) (cy : Nat → ClassId) (ev : Ew) (K ln : Nat → Nat) (Ls : List Nat) (hW : SW K ln Ls) (sz : Nat) (hp0 : Nat → Nat → Value) (ok0 : Ok K hp0) (qa900 : Nat) (zi901 : Int32) (zi902 : Int32) (wl903 : Int64) (kd900 : K qa900 = 7) (bd901 : ((1 : Int) ≤ zi901.toInt ∧ zi901.toInt ≤ 16)) : Met l yX6_pick (WS yX6_pick cX6_pick 9 (some .int)) { frames := 16, cells := 0, slots := 0, locals := 442 } (PB2 [.ref qa900, .int zi901, .int zi902, .long wl903] sz G cy ev (va_pl Ls (cellOf cy K ln hp0))) (QBi (S := (Nat → Nat → Value)) (fun (r : Int32) (u : (Nat → Nat → Value)) => Ok K u ∧ Fr [] K hp0 u) G (fun u => va_pl Ls (cellOf cy K ln u)) (va_A (va_pl Ls (cellOf cy K ln hp0)) sz)) 0 0 (va_A (va_pl Ls (cellOf cy K ln hp0)) sz) := by
  refine met_of2 (y := yX6_pick) (L := 9) (av := [.ref qa900, .int zi901, .int zi902, .long wl903]) (Qc := fun A => QBi (S := (Nat → Nat → Value)) (fun (r : Int32) (u : (Nat → Nat → Value)) => Ok K u ∧ Fr [] K hp0 u) G (fun u => va_pl Ls (cellOf cy K ln u)) A) (plainFor_of_name (by decide)) (Nat.le_of_ble_eq_true rfl) ?_
  intro p e s m below meth c hsz hx hb hr hml hown hT hlocks hin hK A hA hE hw hS ls hl
  have hw : PW G cy K ln Ls A hp0 s.heap := hw
  have hown : s.vm.findClass "LieClock$Sets" = some m.cls := hown
  have hl : lv_has ls 9 [(0, .ref qa900), (1, .int zi901), (2, .int zi902), (3, .long wl903)] := hl
  obtain ⟨Q, hQ⟩ : ∃ Q : State → Prop, Q = MQ below (QBi (S := (Nat → Nat → Value)) (fun (r : Int32) (u : (Nat → Nat → Value)) => Ok K u ∧ Fr [] K hp0 u) G (fun u => va_pl Ls (cellOf cy K ln u)) A) ([.ref qa900, .int zi901, .int zi902, .long wl903] : List Value).toArray s 0 0 A := ⟨_, rfl⟩
  rw [← hQ]
  refine lv_iload_n hx hb dX6_pick_0 rfl (lv_at hl 1 rfl) ?_
  refine lv_iconst (v := 1) hx hb dX6_pick_1 (by decide) ?_
  refine lv_isub hx hb dX6_pick_2 (lv_topi (fun zi1 ea2 => ?_))
  have bd3 : (0 : Int) ≤ zi1.toInt ∧ zi1.toInt ≤ 15 := b_isub ea2 bd901 bc_1 (by decide) (by decide) (by decide) (by decide)
  have qe4 : zi1.toInt = (zi901 : Int32).toInt - (1 : Int32).toInt := e_isub ea2 bd901 bc_1 (by decide) (by decide)
  have qe5 : zi1.toInt = zi901.toInt - 1 := by have ha : (1 : Int32).toInt = 1 := (by decide); rw [ha] at qe4; exact qe4
  refine lv_istore (lv' := [(5, .int zi1), (0, .ref qa900), (1, .int zi901), (2, .int zi902), (3, .long wl903)]) hx hb dX6_pick_3 hl (by decide) rfl (fun ls hl => ?_)
  have lp439 : ∀ (n437 : Nat) (zi265 : Int32) (H : Heap) (locs : List Loc) (ls : Array Slot), 16 - zi265.toInt < (n437 : Int) → ((0 : Int) ≤ zi265.toInt ∧ zi265.toInt ≤ 16) → lv_has ls 9 [(0, .ref qa900), (1, .int zi901), (2, .int zi902), (3, .long wl903), (5, .int zi265)] → PW G cy K ln Ls A hp0 H → va_S A s.heap H locs → W p l e ({ frames := 16, cells := 0, slots := 0, locals := 442 } : Room) s m ([.ref qa900, .int zi901, .int zi902, .long wl903] : List Value).toArray below meth c H locs 0 0 Q (F0 m 5 ls []) := by
    intro n437
    induction n437 with
    | zero =>
      intro zi265 H locs ls hm440 bd266 hl hw hS
      exact absurd hm440 (by have := bd266; omega)
    | succ n437 ih438 =>
      intro zi265 H locs ls hm440 bd266 hl hw hS
      refine lv_iload hx hb dX6_pick_5 (lv_at hl 4 rfl) ?_
      refine lv_if_lt (tgt := 114) hx hb dX6_pick_7 (by decide) (fun c => absurd c (d_nlt bd266 bc_0 (by decide))) (fun _ => ?_)
      refine lv_iload hx hb dX6_pick_10 (lv_at hl 4 rfl) ?_
      refine lv_iload_n hx hb dX6_pick_12 rfl (lv_at hl 2 rfl) ?_
      refine lv_icmp_ge (tgt := 114) hx hb dX6_pick_13 (by decide) (fun cn441 => ?_) (fun cn441 => ?_)
      · skip
        have bd442 : (-2147483648 : Int) ≤ zi902.toInt ∧ zi902.toInt ≤ 16 := r_le_x cn441 (b_all zi902) bd266 (by decide) (by decide)
        refine lv_iconst (v := 0) hx hb dX6_pick_114 (by decide) ?_
        rw [hQ]
        exact kz_i hx hb hr hlocks hS rfl hp0 hw ⟨ok0, (Fr.rf)⟩ (Nat.le_of_ble_eq_true rfl) (Nat.le_of_ble_eq_true rfl) dX6_pick_115
      · skip
        have bd443 : (1 : Int) ≤ zi902.toInt ∧ zi902.toInt ≤ 2147483647 := r_lt_y (Int32.not_le.mp cn441) bd266 (b_all zi902) (by decide) (by decide)
        refine lv_iload hx hb dX6_pick_16 (lv_at hl 4 rfl) ?_
        refine lv_aload_n hx hb dX6_pick_18 rfl (lv_at hl 0 rfl) ?_
        obtain ⟨zi445, eq444, bd446⟩ := rd_7003 ok0 kd900
        refine p_get (ci := 6) (v := .int zi445) (C := RX6) (T := TX6) (N := 6) hx hb hT iw_X6 hown hK hw hW kd900 (by decide) rfl rfl 3 (by decide) eq444 (hT _ tb_531) (fun _ h9 => h9) dX6_pick_19 ?_
        refine lv_icmp_ge (tgt := 114) hx hb dX6_pick_22 (by decide) (fun cn447 => ?_) (fun cn447 => ?_)
        · skip
          refine lv_iconst (v := 0) hx hb dX6_pick_114 (by decide) ?_
          rw [hQ]
          exact kz_i hx hb hr hlocks hS rfl hp0 hw ⟨ok0, (Fr.rf)⟩ (Nat.le_of_ble_eq_true rfl) (Nat.le_of_ble_eq_true rfl) dX6_pick_115
        · skip
          have bd448 : (0 : Int) ≤ zi265.toInt ∧ zi265.toInt ≤ 15 := r_lt_x (Int32.not_le.mp cn447) bd266 bd446 (by decide) (by decide)
          have bd449 : (1 : Int) ≤ zi445.toInt ∧ zi445.toInt ≤ 16 := r_lt_y (Int32.not_le.mp cn447) bd266 bd446 (by decide) (by decide)
          refine lv_lload_n hx hb dX6_pick_25 rfl (lv_at hl 3 rfl) ?_
          refine lv_aload_n hx hb dX6_pick_26 rfl (lv_at hl 0 rfl) ?_
          obtain ⟨qa451, eq450, kd452⟩ := rd_7000 ok0 kd900
          refine p_get (ci := 6) (v := .ref qa451) (C := RX6) (T := TX6) (N := 6) hx hb hT iw_X6 hown hK hw hW kd900 (by decide) rfl rfl 0 (by decide) eq450 (hT _ tb_528) (fun _ h9 => h9) dX6_pick_27 ?_
          refine lv_iload hx hb dX6_pick_30 (lv_at hl 4 rfl) ?_
          obtain ⟨wl454, eq453⟩ := rd_37000 ok0 kd452 ((zi265 : Int32).toNatClampNeg)
          refine p_lald (v := wl454) hx hb hK hw hW kd452 (by decide) rfl (hW.len kd452 (n := 16) rfl (by decide)) (vp_b bd448 (by decide) (by decide)) eq453 dX6_pick_32 ?_
          refine lv_land hx hb dX6_pick_33 (lv_topl (fun wl455 _ => ?_))
          refine lv_lstore (lv' := [(6, .long wl455), (0, .ref qa900), (1, .int zi901), (2, .int zi902), (3, .long wl903), (5, .int zi265)]) hx hb dX6_pick_34 hl (by decide) rfl (fun ls hl => ?_)
          refine lv_iload_n hx hb dX6_pick_36 rfl (lv_at hl 2 rfl) ?_
          refine lv_iconst (v := 1) hx hb dX6_pick_37 (by decide) ?_
          refine lv_icmp_ne (tgt := 60) hx hb dX6_pick_38 (by decide) (fun cn456 => ?_) (fun cn456 => ?_)
          · skip
            have bd457 : (2 : Int) ≤ zi901.toInt ∧ zi901.toInt ≤ 16 := r_ne_lo cn456 bd901 (toi bc_1) (by decide) (by decide)
            refine lv_aload_n hx hb dX6_pick_60 rfl (lv_at hl 1 rfl) ?_
            refine lv_lload hx hb dX6_pick_61 (lv_at hl 0 rfl) ?_
            refine lv_aload_n hx hb dX6_pick_63 rfl (lv_at hl 1 rfl) ?_
            obtain ⟨qa459, eq458, kd460⟩ := rd_7002 ok0 kd900
            refine p_get (ci := 6) (v := .ref qa459) (C := RX6) (T := TX6) (N := 6) hx hb hT iw_X6 hown hK hw hW kd900 (by decide) rfl rfl 2 (by decide) eq458 (hT _ tb_530) (fun _ h9 => h9) dX6_pick_64 ?_
            refine lv_iload hx hb dX6_pick_67 (lv_at hl 5 rfl) ?_
            obtain ⟨wl462, eq461⟩ := rd_39000 ok0 kd460 ((zi265 : Int32).toNatClampNeg)
            refine p_lald (v := wl462) hx hb hK hw hW kd460 (by decide) rfl (hW.len kd460 (n := 17) rfl (by decide)) (vp_b bd448 (by decide) (by decide)) eq461 dX6_pick_69 ?_
            refine lv_land hx hb dX6_pick_70 (lv_topl (fun wl463 _ => ?_))
            refine kq_i hw hS hA (va_runV (As := [.long wl463]) (rest := []) ⟨hx, hb, hml, hown, hT⟩ (cX6_isEnough_0 l G cy ev K ln Ls hW _ hp0 ok0 qa900 wl463 kd900) (cwV 1 hT (good_V tb_1272 tb_1269 tb_1271 tb_43 tb_118) rfl rfl rfl (by decide +kernel) ⟨Nat.le_of_ble_eq_true rfl, Nat.le_of_ble_eq_true rfl⟩) (pool_preV (ci := 6) hK hE hS hA hw hW kd900 (by decide) rfl) rfl rfl hl.1 rfl (lv_room (Nat.le_of_ble_eq_true rfl)) dX6_pick_71 ⟨Nat.le_of_ble_eq_true rfl, Nat.le_of_ble_eq_true rfl⟩) (fun zi468 hp464 H locs hq467 hw hS => ?_)
            obtain ⟨ok465, F466, bd469⟩ := hq467
            obtain rfl : hp0 = hp464 := (Fr.nil F466).symm
            have hw : PW G cy K ln Ls A hp0 H := hw
            refine lv_if_eq (tgt := 108) hx hb dX6_pick_74 (by decide) (fun cn470 => ?_) (fun cn470 => ?_)
            · skip
              have bd471 : (0 : Int) ≤ zi468.toInt ∧ zi468.toInt ≤ 0 := r_eq_x cn470 bd469 bc_0 (by decide) (by decide)
              obtain ⟨zi472, ea473⟩ : ∃ z : Int32, z = zi265 + 1 := ⟨_, rfl⟩
              have bd474 : (1 : Int) ≤ zi472.toInt ∧ zi472.toInt ≤ 16 := b_iadd ea473 bd448 bc_1 (by decide) (by decide) (by decide) (by decide)
              have qe475 : zi472.toInt = (zi265 : Int32).toInt + (1 : Int32).toInt := e_iadd ea473 bd448 bc_1 (by decide) (by decide)
              have qe476 : zi472.toInt = zi265.toInt + 1 := by have ha : (1 : Int32).toInt = 1 := (by decide); rw [ha] at qe475; exact qe475
              refine lv_iinc (v := zi472) (lv' := [(5, .int zi472), (6, .long wl455), (0, .ref qa900), (1, .int zi901), (2, .int zi902), (3, .long wl903)]) hx hb dX6_pick_108 hl (k := 5) rfl ea473.symm (by decide) rfl (fun ls hl => ?_)
              refine lv_goto (tgt := 5) hx hb dX6_pick_111 (by decide) ?_
              exact ih438 zi472 _ _ ls (by have := hm440; have := qe476; omega) (b_wid2 bd474 (by decide) (by decide)) (lv_sub hl [2, 3, 4, 5, 0] rfl) hw hS
            · skip
              have bd477 : (1 : Int) ≤ zi468.toInt ∧ zi468.toInt ≤ 1 := r_ne_lo cn470 bd469 (toi bc_0) (by decide) (by decide)
              refine lv_aload_n hx hb dX6_pick_77 rfl (lv_at hl 1 rfl) ?_
              refine lv_iload_n hx hb dX6_pick_78 rfl (lv_at hl 2 rfl) ?_
              refine lv_iconst (v := 1) hx hb dX6_pick_79 (by decide) ?_
              refine lv_isub hx hb dX6_pick_80 (lv_topi (fun zi478 ea479 => ?_))
              have bd480 : (1 : Int) ≤ zi478.toInt ∧ zi478.toInt ≤ 15 := b_isub ea479 bd457 bc_1 (by decide) (by decide) (by decide) (by decide)
              have qe481 : zi478.toInt = (zi901 : Int32).toInt - (1 : Int32).toInt := e_isub ea479 bd457 bc_1 (by decide) (by decide)
              have qe482 : zi478.toInt = zi901.toInt - 1 := by have ha : (1 : Int32).toInt = 1 := (by decide); rw [ha] at qe481; exact qe481
              refine lv_iload hx hb dX6_pick_81 (lv_at hl 5 rfl) ?_
              refine lv_lload hx hb dX6_pick_83 (lv_at hl 0 rfl) ?_
              refine kq_i hw hS hA (va_runV (As := [.int zi478, .int zi265, .long wl455]) (rest := []) ⟨hx, hb, hml, hown, hT⟩ (cX6_pick_14 l G cy ev K ln Ls hW _ hp0 ok0 qa900 zi478 zi265 wl455 kd900 (b_wid2 bd480 (by decide) (by decide))) (cwV 3 hT (good_V tb_1277 tb_1274 tb_1276 tb_44 tb_118) rfl rfl rfl (by decide +kernel) ⟨Nat.le_of_ble_eq_true rfl, Nat.le_of_ble_eq_true rfl⟩) (pool_preV (ci := 6) hK hE hS hA hw hW kd900 (by decide) rfl) rfl rfl hl.1 rfl (lv_room (Nat.le_of_ble_eq_true rfl)) dX6_pick_85 ⟨Nat.le_of_ble_eq_true rfl, Nat.le_of_ble_eq_true rfl⟩) (fun zi487 hp483 H locs hq486 hw hS => ?_)
              obtain ⟨ok484, F485⟩ := hq486
              obtain rfl : hp0 = hp483 := (Fr.nil F485).symm
              have hw : PW G cy K ln Ls A hp0 H := hw
              refine lv_istore (lv' := [(8, .int zi487), (6, .long wl455), (0, .ref qa900), (1, .int zi901), (2, .int zi902), (3, .long wl903), (5, .int zi265)]) hx hb dX6_pick_88 hl (by decide) rfl (fun ls hl => ?_)
              refine lv_iload hx hb dX6_pick_90 (lv_at hl 0 rfl) ?_
              refine lv_if_eq (tgt := 108) hx hb dX6_pick_92 (by decide) (fun cn488 => ?_) (fun cn488 => ?_)
              · skip
                have bd489 : (0 : Int) ≤ zi487.toInt ∧ zi487.toInt ≤ 0 := r_eq_x cn488 (b_all zi487) bc_0 (by decide) (by decide)
                obtain ⟨zi490, ea491⟩ : ∃ z : Int32, z = zi265 + 1 := ⟨_, rfl⟩
                have bd492 : (1 : Int) ≤ zi490.toInt ∧ zi490.toInt ≤ 16 := b_iadd ea491 bd448 bc_1 (by decide) (by decide) (by decide) (by decide)
                have qe493 : zi490.toInt = (zi265 : Int32).toInt + (1 : Int32).toInt := e_iadd ea491 bd448 bc_1 (by decide) (by decide)
                have qe494 : zi490.toInt = zi265.toInt + 1 := by have ha : (1 : Int32).toInt = 1 := (by decide); rw [ha] at qe493; exact qe493
                refine lv_iinc (v := zi490) (lv' := [(5, .int zi490), (8, .int zi487), (6, .long wl455), (0, .ref qa900), (1, .int zi901), (2, .int zi902), (3, .long wl903)]) hx hb dX6_pick_108 hl (k := 6) rfl ea491.symm (by decide) rfl (fun ls hl => ?_)
                refine lv_goto (tgt := 5) hx hb dX6_pick_111 (by decide) ?_
                exact ih438 zi490 _ _ ls (by have := hm440; have := qe494; omega) (b_wid2 bd492 (by decide) (by decide)) (lv_sub hl [3, 4, 5, 6, 0] rfl) hw hS
              · skip
                refine lv_iload hx hb dX6_pick_95 (lv_at hl 0 rfl) ?_
                refine lv_iconst (v := 1) hx hb dX6_pick_97 (by decide) ?_
                refine lv_aload_n hx hb dX6_pick_98 rfl (lv_at hl 2 rfl) ?_
                obtain ⟨qa496, eq495, kd497⟩ := rd_7001 ok0 kd900
                refine p_get (ci := 6) (v := .ref qa496) (C := RX6) (T := TX6) (N := 6) hx hb hT iw_X6 hown hK hw hW kd900 (by decide) rfl rfl 1 (by decide) eq495 (hT _ tb_529) (fun _ h9 => h9) dX6_pick_99 ?_
                refine lv_iload hx hb dX6_pick_102 (lv_at hl 6 rfl) ?_
                obtain ⟨zi499, eq498⟩ := rd_38000 ok0 kd497 ((zi265 : Int32).toNatClampNeg)
                refine p_iald (v := zi499) hx hb hK hw hW kd497 (by decide) rfl (hW.len kd497 (n := 16) rfl (by decide)) (vp_b bd448 (by decide) (by decide)) eq498 dX6_pick_104 ?_
                refine lv_ishl hx hb dX6_pick_105 (lv_topi (fun zi500 ea501 => ?_))
                refine lv_ior hx hb dX6_pick_106 (lv_topi (fun zi502 ea503 => ?_))
                rw [hQ]
                exact kz_i hx hb hr hlocks hS rfl hp0 hw ⟨ok0, (Fr.rf)⟩ (Nat.le_of_ble_eq_true rfl) (Nat.le_of_ble_eq_true rfl) dX6_pick_107
          · skip
            have bd504 : (1 : Int) ≤ zi901.toInt ∧ zi901.toInt ≤ 1 := r_eq_x cn456 bd901 bc_1 (by decide) (by decide)
            refine lv_aload_n hx hb dX6_pick_41 rfl (lv_at hl 1 rfl) ?_
            refine lv_lload hx hb dX6_pick_42 (lv_at hl 0 rfl) ?_
            refine kq_i hw hS hA (va_runV (As := [.long wl455]) (rest := []) ⟨hx, hb, hml, hown, hT⟩ (cX6_isEnough_0 l G cy ev K ln Ls hW _ hp0 ok0 qa900 wl455 kd900) (cwV 1 hT (good_V tb_1272 tb_1269 tb_1271 tb_43 tb_118) rfl rfl rfl (by decide +kernel) ⟨Nat.le_of_ble_eq_true rfl, Nat.le_of_ble_eq_true rfl⟩) (pool_preV (ci := 6) hK hE hS hA hw hW kd900 (by decide) rfl) rfl rfl hl.1 rfl (lv_room (Nat.le_of_ble_eq_true rfl)) dX6_pick_44 ⟨Nat.le_of_ble_eq_true rfl, Nat.le_of_ble_eq_true rfl⟩) (fun zi509 hp505 H locs hq508 hw hS => ?_)
            obtain ⟨ok506, F507, bd510⟩ := hq508
            obtain rfl : hp0 = hp505 := (Fr.nil F507).symm
            have hw : PW G cy K ln Ls A hp0 H := hw
            refine lv_if_eq (tgt := 108) hx hb dX6_pick_47 (by decide) (fun cn511 => ?_) (fun cn511 => ?_)
            · skip
              have bd512 : (0 : Int) ≤ zi509.toInt ∧ zi509.toInt ≤ 0 := r_eq_x cn511 bd510 bc_0 (by decide) (by decide)
              obtain ⟨zi513, ea514⟩ : ∃ z : Int32, z = zi265 + 1 := ⟨_, rfl⟩
              have bd515 : (1 : Int) ≤ zi513.toInt ∧ zi513.toInt ≤ 16 := b_iadd ea514 bd448 bc_1 (by decide) (by decide) (by decide) (by decide)
              have qe516 : zi513.toInt = (zi265 : Int32).toInt + (1 : Int32).toInt := e_iadd ea514 bd448 bc_1 (by decide) (by decide)
              have qe517 : zi513.toInt = zi265.toInt + 1 := by have ha : (1 : Int32).toInt = 1 := (by decide); rw [ha] at qe516; exact qe516
              refine lv_iinc (v := zi513) (lv' := [(5, .int zi513), (6, .long wl455), (0, .ref qa900), (1, .int zi901), (2, .int zi902), (3, .long wl903)]) hx hb dX6_pick_108 hl (k := 5) rfl ea514.symm (by decide) rfl (fun ls hl => ?_)
              refine lv_goto (tgt := 5) hx hb dX6_pick_111 (by decide) ?_
              exact ih438 zi513 _ _ ls (by have := hm440; have := qe517; omega) (b_wid2 bd515 (by decide) (by decide)) (lv_sub hl [2, 3, 4, 5, 0] rfl) hw hS
            · skip
              have bd518 : (1 : Int) ≤ zi509.toInt ∧ zi509.toInt ≤ 1 := r_ne_lo cn511 bd510 (toi bc_0) (by decide) (by decide)
              refine lv_iconst (v := 1) hx hb dX6_pick_50 (by decide) ?_
              refine lv_aload_n hx hb dX6_pick_51 rfl (lv_at hl 1 rfl) ?_
              obtain ⟨qa520, eq519, kd521⟩ := rd_7001 ok0 kd900
              refine p_get (ci := 6) (v := .ref qa520) (C := RX6) (T := TX6) (N := 6) hx hb hT iw_X6 hown hK hw hW kd900 (by decide) rfl rfl 1 (by decide) eq519 (hT _ tb_529) (fun _ h9 => h9) dX6_pick_52 ?_
              refine lv_iload hx hb dX6_pick_55 (lv_at hl 5 rfl) ?_
              obtain ⟨zi523, eq522⟩ := rd_38000 ok0 kd521 ((zi265 : Int32).toNatClampNeg)
              refine p_iald (v := zi523) hx hb hK hw hW kd521 (by decide) rfl (hW.len kd521 (n := 16) rfl (by decide)) (vp_b bd448 (by decide) (by decide)) eq522 dX6_pick_57 ?_
              refine lv_ishl hx hb dX6_pick_58 (lv_topi (fun zi524 ea525 => ?_))
              rw [hQ]
              exact kz_i hx hb hr hlocks hS rfl hp0 hw ⟨ok0, (Fr.rf)⟩ (Nat.le_of_ble_eq_true rfl) (Nat.le_of_ble_eq_true rfl) dX6_pick_59
  exact lp439 _ zi1 _ _ ls (lp_in _) (b_wid2 bd3 (by decide) (by decide)) (lv_sub hl [1, 2, 3, 4, 0] rfl) hw hS

set_option maxRecDepth 100000 in
set_option maxHeartbeats 4000000 in
theorem cX6_fewest_0 (l : Launch) (G : va_G) (cy : Nat → ClassId) (ev : Ew) (K ln : Nat → Nat) (Ls : List Nat) (hW : SW K ln Ls) (sz : Nat) (hp0 : Nat → Nat → Value) (ok0 : Ok K hp0) (qa900 : Nat) (wl901 : Int64) (wl902 : Int64) (wl903 : Int64) (kd900 : K qa900 = 7) : Met l yX6_fewest (WS yX6_fewest cX6_fewest 9 (some .int)) { frames := 17, cells := 0, slots := 0, locals := 470 } (PB2 [.ref qa900, .long wl901, .long wl902, .long wl903] sz G cy ev (va_pl Ls (cellOf cy K ln hp0))) (QBi (S := (Nat → Nat → Value)) (fun (r : Int32) (u : (Nat → Nat → Value)) => Ok K u ∧ Fr [7004, 7005, 39000] K hp0 u) G (fun u => va_pl Ls (cellOf cy K ln u)) (va_A (va_pl Ls (cellOf cy K ln hp0)) sz)) 0 0 (va_A (va_pl Ls (cellOf cy K ln hp0)) sz) := by
  refine met_of2 (y := yX6_fewest) (L := 9) (av := [.ref qa900, .long wl901, .long wl902, .long wl903]) (Qc := fun A => QBi (S := (Nat → Nat → Value)) (fun (r : Int32) (u : (Nat → Nat → Value)) => Ok K u ∧ Fr [7004, 7005, 39000] K hp0 u) G (fun u => va_pl Ls (cellOf cy K ln u)) A) (plainFor_of_name (by decide)) (Nat.le_of_ble_eq_true rfl) ?_
  intro p e s m below meth c hsz hx hb hr hml hown hT hlocks hin hK A hA hE hw hS ls hl
  have hw : PW G cy K ln Ls A hp0 s.heap := hw
  have hown : s.vm.findClass "LieClock$Sets" = some m.cls := hown
  have hl : lv_has ls 9 [(0, .ref qa900), (1, .long wl901), (3, .long wl902), (5, .long wl903)] := hl
  obtain ⟨Q, hQ⟩ : ∃ Q : State → Prop, Q = MQ below (QBi (S := (Nat → Nat → Value)) (fun (r : Int32) (u : (Nat → Nat → Value)) => Ok K u ∧ Fr [7004, 7005, 39000] K hp0 u) G (fun u => va_pl Ls (cellOf cy K ln u)) A) ([.ref qa900, .long wl901, .long wl902, .long wl903] : List Value).toArray s 0 0 A := ⟨_, rfl⟩
  rw [← hQ]
  refine lv_aload_n hx hb dX6_fewest_0 rfl (lv_at hl 0 rfl) ?_
  refine lv_lload_n hx hb dX6_fewest_1 rfl (lv_at hl 2 rfl) ?_
  refine p_put (ci := 6) (v := .long wl902) (ty := .long) (C := RX6) (T := TX6) (N := 6) hx hb hT iw_X6 tyX6 tyX6_ok nmX6 hown hK hw hS hW kd900 (by decide) rfl rfl 4 (by decide) (hT _ tb_532) (fun _ h9 => h9) rfl (by decide +kernel) rfl rfl dX6_fewest_2 (fun hp1 eh2 H locs hw hS => ?_)
  have ok3 := wr_7004 ok0 kd900 eh2
  refine lv_aload_n hx hb dX6_fewest_5 rfl (lv_at hl 0 rfl) ?_
  refine lv_lload hx hb dX6_fewest_6 (lv_at hl 3 rfl) ?_
  refine p_put (ci := 6) (v := .long wl903) (ty := .long) (C := RX6) (T := TX6) (N := 6) hx hb hT iw_X6 tyX6 tyX6_ok nmX6 hown hK hw hS hW kd900 (by decide) rfl rfl 5 (by decide) (hT _ tb_533) (fun _ h9 => h9) rfl (by decide +kernel) rfl rfl dX6_fewest_8 (fun hp4 eh5 H locs hw hS => ?_)
  have ok6 := wr_7005 ok3 kd900 eh5
  refine lv_aload_n hx hb dX6_fewest_11 rfl (lv_at hl 0 rfl) ?_
  refine lv_lload_n hx hb dX6_fewest_12 rfl (lv_at hl 1 rfl) ?_
  refine kq_i hw hS hA (va_runV (As := [.long wl901]) (rest := []) ⟨hx, hb, hml, hown, hT⟩ (cX6_isEnough_0 l G cy ev K ln Ls hW _ hp4 ok6 qa900 wl901 kd900) (cwV 1 hT (good_V tb_1272 tb_1269 tb_1271 tb_43 tb_118) rfl rfl rfl (by decide +kernel) ⟨Nat.le_of_ble_eq_true rfl, Nat.le_of_ble_eq_true rfl⟩) (pool_preV (ci := 6) hK hE hS hA hw hW kd900 (by decide) rfl) rfl rfl hl.1 rfl (lv_room (Nat.le_of_ble_eq_true rfl)) dX6_fewest_13 ⟨Nat.le_of_ble_eq_true rfl, Nat.le_of_ble_eq_true rfl⟩) (fun zi11 hp7 H locs hq10 hw hS => ?_)
  obtain ⟨ok8, F9, bd12⟩ := hq10
  obtain rfl : hp4 = hp7 := (Fr.nil F9).symm
  have hw : PW G cy K ln Ls A hp4 H := hw
  refine lv_if_eq (tgt := 21) hx hb dX6_fewest_16 (by decide) (fun cn13 => ?_) (fun cn13 => ?_)
  · skip
    have bd14 : (0 : Int) ≤ zi11.toInt ∧ zi11.toInt ≤ 0 := r_eq_x cn13 bd12 bc_0 (by decide) (by decide)
    refine lv_aload_n hx hb dX6_fewest_21 rfl (lv_at hl 0 rfl) ?_
    obtain ⟨qa16, eq15, kd17⟩ := rd_7002 ok6 kd900
    refine p_get (ci := 6) (v := .ref qa16) (C := RX6) (T := TX6) (N := 6) hx hb hT iw_X6 hown hK hw hW kd900 (by decide) rfl rfl 2 (by decide) eq15 (hT _ tb_530) (fun _ h9 => h9) dX6_fewest_22 ?_
    refine lv_iconst (v := 0) hx hb dX6_fewest_25 (by decide) ?_
    refine lv_ldc2 (v := (-1)) hx hb hown (hT _ tb_1273) dX6_fewest_26 ?_
    refine p_last (x := (-1)) hx hb hK hw hS hW kd17 (by decide) rfl (hW.len kd17 (n := 17) rfl (by decide)) (vp_b bc_0 (by decide) (by decide)) dX6_fewest_29 (fun hp18 eh19 H locs hw hS => ?_)
    have ok20 := wr_39000 ok6 kd17 eh19
    refine lv_iconst (v := 0) hx hb dX6_fewest_30 (by decide) ?_
    refine lv_istore (lv' := [(7, .int 0), (0, .ref qa900), (1, .long wl901), (3, .long wl902), (5, .long wl903)]) hx hb dX6_fewest_31 hl (by decide) rfl (fun ls hl => ?_)
    have lp232 : ∀ (n230 : Nat) (hp170 : Nat → Nat → Value) (zi169 : Int32) (H : Heap) (locs : List Loc) (ls : Array Slot), 16 - zi169.toInt < (n230 : Int) → Ok K hp170 → Fr [39000] K hp18 hp170 → ((0 : Int) ≤ zi169.toInt ∧ zi169.toInt ≤ 16) → lv_has ls 9 [(0, .ref qa900), (1, .long wl901), (7, .int zi169)] → PW G cy K ln Ls A hp170 H → va_S A s.heap H locs → W p l e ({ frames := 17, cells := 0, slots := 0, locals := 470 } : Room) s m ([.ref qa900, .long wl901, .long wl902, .long wl903] : List Value).toArray below meth c H locs 0 0 Q (F0 m 33 ls []) := by
      intro n230
      induction n230 with
      | zero =>
        intro hp170 zi169 H locs ls hm233 ok172 F171 bd173 hl hw hS
        exact absurd hm233 (by have := bd173; omega)
      | succ n230 ih231 =>
        intro hp170 zi169 H locs ls hm233 ok172 F171 bd173 hl hw hS
        refine lv_iload hx hb dX6_fewest_33 (lv_at hl 2 rfl) ?_
        refine lv_aload_n hx hb dX6_fewest_35 rfl (lv_at hl 0 rfl) ?_
        obtain ⟨zi235, eq234, bd236⟩ := rd_7003 ok172 kd900
        refine p_get (ci := 6) (v := .int zi235) (C := RX6) (T := TX6) (N := 6) hx hb hT iw_X6 hown hK hw hW kd900 (by decide) rfl rfl 3 (by decide) eq234 (hT _ tb_531) (fun _ h9 => h9) dX6_fewest_36 ?_
        refine lv_icmp_ge (tgt := 72) hx hb dX6_fewest_39 (by decide) (fun cn237 => ?_) (fun cn237 => ?_)
        · skip
          refine lv_aload_n hx hb dX6_fewest_72 rfl (lv_at hl 0 rfl) ?_
          refine lv_lload_n hx hb dX6_fewest_73 rfl (lv_at hl 1 rfl) ?_
          refine lv_aload_n hx hb dX6_fewest_74 rfl (lv_at hl 0 rfl) ?_
          have eq262 : hp170 qa900 2 = .ref qa16 := Eq.trans (Fr.at (cq := 7002) F171 kd900 (cd_o (by decide)) (by decide)) (Eq.trans (up_at eh19 (Or.inl (kd_ne kd900 kd17 (by decide)))) eq15)
          refine p_get (ci := 6) (v := .ref qa16) (C := RX6) (T := TX6) (N := 6) hx hb hT iw_X6 hown hK hw hW kd900 (by decide) rfl rfl 2 (by decide) eq262 (hT _ tb_530) (fun _ h9 => h9) dX6_fewest_75 ?_
          refine lv_aload_n hx hb dX6_fewest_78 rfl (lv_at hl 0 rfl) ?_
          refine p_get (ci := 6) (v := .int zi235) (C := RX6) (T := TX6) (N := 6) hx hb hT iw_X6 hown hK hw hW kd900 (by decide) rfl rfl 3 (by decide) eq234 (hT _ tb_531) (fun _ h9 => h9) dX6_fewest_79 ?_
          obtain ⟨wl264, eq263⟩ := rd_39000 ok172 kd17 ((zi235 : Int32).toNatClampNeg)
          refine p_lald (v := wl264) hx hb hK hw hW kd17 (by decide) rfl (hW.len kd17 (n := 17) rfl (by decide)) (vp_b bd236 (by decide) (by decide)) eq263 dX6_fewest_82 ?_
          refine lv_land hx hb dX6_fewest_83 (lv_topl (fun wl265 _ => ?_))
          refine kq_i hw hS hA (va_runV (As := [.long wl265]) (rest := []) ⟨hx, hb, hml, hown, hT⟩ (cX6_isEnough_0 l G cy ev K ln Ls hW _ hp170 ok172 qa900 wl265 kd900) (cwV 1 hT (good_V tb_1272 tb_1269 tb_1271 tb_43 tb_118) rfl rfl rfl (by decide +kernel) ⟨Nat.le_of_ble_eq_true rfl, Nat.le_of_ble_eq_true rfl⟩) (pool_preV (ci := 6) hK hE hS hA hw hW kd900 (by decide) rfl) rfl rfl hl.1 rfl (lv_room (Nat.le_of_ble_eq_true rfl)) dX6_fewest_84 ⟨Nat.le_of_ble_eq_true rfl, Nat.le_of_ble_eq_true rfl⟩) (fun zi270 hp266 H locs hq269 hw hS => ?_)
          obtain ⟨ok267, F268, bd271⟩ := hq269
          obtain rfl : hp170 = hp266 := (Fr.nil F268).symm
          have hw : PW G cy K ln Ls A hp170 H := hw
          refine lv_if_ne (tgt := 93) hx hb dX6_fewest_87 (by decide) (fun cn272 => ?_) (fun cn272 => ?_)
          · skip
            have bd273 : (1 : Int) ≤ zi270.toInt ∧ zi270.toInt ≤ 1 := r_ne_lo cn272 bd271 (toi bc_0) (by decide) (by decide)
            refine lv_iconst (v := 1) hx hb dX6_fewest_93 (by decide) ?_
            refine lv_istore (lv' := [(7, .int 1), (0, .ref qa900), (1, .long wl901)]) hx hb dX6_fewest_94 hl (by decide) rfl (fun ls hl => ?_)
            have lp403 : ∀ (n401 : Nat) (zi369 : Int32) (H : Heap) (locs : List Loc) (ls : Array Slot), 17 - zi369.toInt < (n401 : Int) → ((1 : Int) ≤ zi369.toInt ∧ zi369.toInt ≤ 17) → lv_has ls 9 [(0, .ref qa900), (1, .long wl901), (7, .int zi369)] → PW G cy K ln Ls A hp170 H → va_S A s.heap H locs → W p l e ({ frames := 17, cells := 0, slots := 0, locals := 470 } : Room) s m ([.ref qa900, .long wl901, .long wl902, .long wl903] : List Value).toArray below meth c H locs 0 0 Q (F0 m 96 ls []) := by
              intro n401
              induction n401 with
              | zero =>
                intro zi369 H locs ls hm404 bd370 hl hw hS
                exact absurd hm404 (by have := bd370; omega)
              | succ n401 ih402 =>
                intro zi369 H locs ls hm404 bd370 hl hw hS
                refine lv_iload hx hb dX6_fewest_96 (lv_at hl 2 rfl) ?_
                refine lv_aload_n hx hb dX6_fewest_98 rfl (lv_at hl 0 rfl) ?_
                refine p_get (ci := 6) (v := .int zi235) (C := RX6) (T := TX6) (N := 6) hx hb hT iw_X6 hown hK hw hW kd900 (by decide) rfl rfl 3 (by decide) eq234 (hT _ tb_531) (fun _ h9 => h9) dX6_fewest_99 ?_
                refine lv_icmp_gt (tgt := 132) hx hb dX6_fewest_102 (by decide) (fun cn405 => ?_) (fun cn405 => ?_)
                · skip
                  refine lv_bipush (v := (-2)) hx hb dX6_fewest_132 (by decide) ?_
                  rw [hQ]
                  exact kz_i hx hb hr hlocks hS rfl hp170 hw ⟨ok172, (Fr.tr (Fr.put (cq := 39000) (Fr.put (cq := 7005) (Fr.put (cq := 7004) (Fr.rf) eh2 kd900 (cd_o (by decide)) (by decide)) eh5 kd900 (cd_o (by decide)) (by decide)) eh19 kd17 (cd_a (by decide)) (by decide)) F171 (by decide))⟩ (Nat.le_of_ble_eq_true rfl) (Nat.le_of_ble_eq_true rfl) dX6_fewest_134
                · skip
                  have bd406 : (1 : Int) ≤ zi369.toInt ∧ zi369.toInt ≤ 16 := r_le_x (Int32.not_lt.mp cn405) bd370 bd236 (by decide) (by decide)
                  have bd407 : (1 : Int) ≤ zi235.toInt ∧ zi235.toInt ≤ 16 := r_le_y (Int32.not_lt.mp cn405) bd370 bd236 (by decide) (by decide)
                  refine lv_aload_n hx hb dX6_fewest_105 rfl (lv_at hl 0 rfl) ?_
                  refine lv_iload hx hb dX6_fewest_106 (lv_at hl 2 rfl) ?_
                  refine lv_aload_n hx hb dX6_fewest_108 rfl (lv_at hl 0 rfl) ?_
                  refine p_get (ci := 6) (v := .int zi235) (C := RX6) (T := TX6) (N := 6) hx hb hT iw_X6 hown hK hw hW kd900 (by decide) rfl rfl 3 (by decide) eq234 (hT _ tb_531) (fun _ h9 => h9) dX6_fewest_109 ?_
                  refine lv_lload_n hx hb dX6_fewest_112 rfl (lv_at hl 1 rfl) ?_
                  refine kq_i hw hS hA (va_runV (As := [.int zi369, .int zi235, .long wl901]) (rest := []) ⟨hx, hb, hml, hown, hT⟩ (cX6_pick_15 l G cy ev K ln Ls hW _ hp170 ok172 qa900 zi369 zi235 wl901 kd900 (b_wid2 bd406 (by decide) (by decide))) (cwV 3 hT (good_V tb_1277 tb_1274 tb_1276 tb_44 tb_118) rfl rfl rfl (by decide +kernel) ⟨Nat.le_of_ble_eq_true rfl, Nat.le_of_ble_eq_true rfl⟩) (pool_preV (ci := 6) hK hE hS hA hw hW kd900 (by decide) rfl) rfl rfl hl.1 rfl (lv_room (Nat.le_of_ble_eq_true rfl)) dX6_fewest_113 ⟨Nat.le_of_ble_eq_true rfl, Nat.le_of_ble_eq_true rfl⟩) (fun zi412 hp408 H locs hq411 hw hS => ?_)
                  obtain ⟨ok409, F410⟩ := hq411
                  obtain rfl : hp170 = hp408 := (Fr.nil F410).symm
                  have hw : PW G cy K ln Ls A hp170 H := hw
                  refine lv_istore (lv' := [(8, .int zi412), (0, .ref qa900), (1, .long wl901), (7, .int zi369)]) hx hb dX6_fewest_116 hl (by decide) rfl (fun ls hl => ?_)
                  refine lv_iload hx hb dX6_fewest_118 (lv_at hl 0 rfl) ?_
                  refine lv_if_eq (tgt := 126) hx hb dX6_fewest_120 (by decide) (fun cn413 => ?_) (fun cn413 => ?_)
                  · skip
                    have bd414 : (0 : Int) ≤ zi412.toInt ∧ zi412.toInt ≤ 0 := r_eq_x cn413 (b_all zi412) bc_0 (by decide) (by decide)
                    obtain ⟨zi415, ea416⟩ : ∃ z : Int32, z = zi369 + 1 := ⟨_, rfl⟩
                    have bd417 : (2 : Int) ≤ zi415.toInt ∧ zi415.toInt ≤ 17 := b_iadd ea416 bd406 bc_1 (by decide) (by decide) (by decide) (by decide)
                    have qe418 : zi415.toInt = (zi369 : Int32).toInt + (1 : Int32).toInt := e_iadd ea416 bd406 bc_1 (by decide) (by decide)
                    have qe419 : zi415.toInt = zi369.toInt + 1 := by have ha : (1 : Int32).toInt = 1 := (by decide); rw [ha] at qe418; exact qe418
                    refine lv_iinc (v := zi415) (lv' := [(7, .int zi415), (8, .int zi412), (0, .ref qa900), (1, .long wl901)]) hx hb dX6_fewest_126 hl (k := 3) rfl ea416.symm (by decide) rfl (fun ls hl => ?_)
                    refine lv_goto (tgt := 96) hx hb dX6_fewest_129 (by decide) ?_
                    exact ih402 zi415 _ _ ls (by have := hm404; have := qe419; omega) (b_wid2 bd417 (by decide) (by decide)) (lv_sub hl [2, 3, 0] rfl) hw hS
                  · skip
                    refine lv_iload hx hb dX6_fewest_123 (lv_at hl 0 rfl) ?_
                    rw [hQ]
                    exact kz_i hx hb hr hlocks hS rfl hp170 hw ⟨ok172, (Fr.tr (Fr.put (cq := 39000) (Fr.put (cq := 7005) (Fr.put (cq := 7004) (Fr.rf) eh2 kd900 (cd_o (by decide)) (by decide)) eh5 kd900 (cd_o (by decide)) (by decide)) eh19 kd17 (cd_a (by decide)) (by decide)) F171 (by decide))⟩ (Nat.le_of_ble_eq_true rfl) (Nat.le_of_ble_eq_true rfl) dX6_fewest_125
            exact lp403 _ 1 _ _ ls (lp_in _) (b_wid2 bc_1 (by decide) (by decide)) (lv_sub hl [1, 2, 0] rfl) hw hS
          · skip
            have bd420 : (0 : Int) ≤ zi270.toInt ∧ zi270.toInt ≤ 0 := r_eq_x cn272 bd271 bc_0 (by decide) (by decide)
            refine lv_bipush (v := (-2)) hx hb dX6_fewest_90 (by decide) ?_
            rw [hQ]
            exact kz_i hx hb hr hlocks hS rfl hp170 hw ⟨ok172, (Fr.tr (Fr.put (cq := 39000) (Fr.put (cq := 7005) (Fr.put (cq := 7004) (Fr.rf) eh2 kd900 (cd_o (by decide)) (by decide)) eh5 kd900 (cd_o (by decide)) (by decide)) eh19 kd17 (cd_a (by decide)) (by decide)) F171 (by decide))⟩ (Nat.le_of_ble_eq_true rfl) (Nat.le_of_ble_eq_true rfl) dX6_fewest_92
        · skip
          have bd421 : (0 : Int) ≤ zi169.toInt ∧ zi169.toInt ≤ 15 := r_lt_x (Int32.not_le.mp cn237) bd173 bd236 (by decide) (by decide)
          have bd422 : (1 : Int) ≤ zi235.toInt ∧ zi235.toInt ≤ 16 := r_lt_y (Int32.not_le.mp cn237) bd173 bd236 (by decide) (by decide)
          refine lv_aload_n hx hb dX6_fewest_42 rfl (lv_at hl 0 rfl) ?_
          have eq423 : hp170 qa900 2 = .ref qa16 := Eq.trans (Fr.at (cq := 7002) F171 kd900 (cd_o (by decide)) (by decide)) (Eq.trans (up_at eh19 (Or.inl (kd_ne kd900 kd17 (by decide)))) eq15)
          refine p_get (ci := 6) (v := .ref qa16) (C := RX6) (T := TX6) (N := 6) hx hb hT iw_X6 hown hK hw hW kd900 (by decide) rfl rfl 2 (by decide) eq423 (hT _ tb_530) (fun _ h9 => h9) dX6_fewest_43 ?_
          refine lv_iload hx hb dX6_fewest_46 (lv_at hl 2 rfl) ?_
          refine lv_iconst (v := 1) hx hb dX6_fewest_48 (by decide) ?_
          refine lv_iadd hx hb dX6_fewest_49 (lv_topi (fun zi424 ea425 => ?_))
          have bd426 : (1 : Int) ≤ zi424.toInt ∧ zi424.toInt ≤ 16 := b_iadd ea425 bd421 bc_1 (by decide) (by decide) (by decide) (by decide)
          have qe427 : zi424.toInt = (zi169 : Int32).toInt + (1 : Int32).toInt := e_iadd ea425 bd421 bc_1 (by decide) (by decide)
          have qe428 : zi424.toInt = zi169.toInt + 1 := by have ha : (1 : Int32).toInt = 1 := (by decide); rw [ha] at qe427; exact qe427
          refine lv_aload_n hx hb dX6_fewest_50 rfl (lv_at hl 0 rfl) ?_
          refine p_get (ci := 6) (v := .ref qa16) (C := RX6) (T := TX6) (N := 6) hx hb hT iw_X6 hown hK hw hW kd900 (by decide) rfl rfl 2 (by decide) eq423 (hT _ tb_530) (fun _ h9 => h9) dX6_fewest_51 ?_
          refine lv_iload hx hb dX6_fewest_54 (lv_at hl 2 rfl) ?_
          obtain ⟨wl430, eq429⟩ := rd_39000 ok172 kd17 ((zi169 : Int32).toNatClampNeg)
          refine p_lald (v := wl430) hx hb hK hw hW kd17 (by decide) rfl (hW.len kd17 (n := 17) rfl (by decide)) (vp_b bd421 (by decide) (by decide)) eq429 dX6_fewest_56 ?_
          refine lv_aload_n hx hb dX6_fewest_57 rfl (lv_at hl 0 rfl) ?_
          obtain ⟨qa432, eq431, kd433⟩ := rd_7000 ok172 kd900
          refine p_get (ci := 6) (v := .ref qa432) (C := RX6) (T := TX6) (N := 6) hx hb hT iw_X6 hown hK hw hW kd900 (by decide) rfl rfl 0 (by decide) eq431 (hT _ tb_528) (fun _ h9 => h9) dX6_fewest_58 ?_
          refine lv_iload hx hb dX6_fewest_61 (lv_at hl 2 rfl) ?_
          obtain ⟨wl435, eq434⟩ := rd_37000 ok172 kd433 ((zi169 : Int32).toNatClampNeg)
          refine p_lald (v := wl435) hx hb hK hw hW kd433 (by decide) rfl (hW.len kd433 (n := 16) rfl (by decide)) (vp_b bd421 (by decide) (by decide)) eq434 dX6_fewest_63 ?_
          refine lv_land hx hb dX6_fewest_64 (lv_topl (fun wl436 _ => ?_))
          refine p_last (x := wl436) hx hb hK hw hS hW kd17 (by decide) rfl (hW.len kd17 (n := 17) rfl (by decide)) (vp_b bd426 (by decide) (by decide)) dX6_fewest_65 (fun hp437 eh438 H locs hw hS => ?_)
          have ok439 := wr_39000 ok172 kd17 eh438
          obtain ⟨zi440, ea441⟩ : ∃ z : Int32, z = zi169 + 1 := ⟨_, rfl⟩
          have bd442 : (1 : Int) ≤ zi440.toInt ∧ zi440.toInt ≤ 16 := b_iadd ea441 bd421 bc_1 (by decide) (by decide) (by decide) (by decide)
          have qe443 : zi440.toInt = (zi169 : Int32).toInt + (1 : Int32).toInt := e_iadd ea441 bd421 bc_1 (by decide) (by decide)
          have qe444 : zi440.toInt = zi169.toInt + 1 := by have ha : (1 : Int32).toInt = 1 := (by decide); rw [ha] at qe443; exact qe443
          refine lv_iinc (v := zi440) (lv' := [(7, .int zi440), (0, .ref qa900), (1, .long wl901)]) hx hb dX6_fewest_66 hl (k := 2) rfl ea441.symm (by decide) rfl (fun ls hl => ?_)
          refine lv_goto (tgt := 33) hx hb dX6_fewest_69 (by decide) ?_
          exact ih231 hp437 zi440 _ _ ls (by have := hm233; have := qe444; omega) ok439 (Fr.put (cq := 39000) (Fr.tr (Fr.rf) F171 (by decide)) eh438 kd17 (cd_a (by decide)) (by decide)) (b_wid2 bd442 (by decide) (by decide)) (lv_sub hl [1, 2, 0] rfl) hw hS
    exact lp232 _ hp18 0 _ _ ls (lp_in _) ok20 (Fr.rf) (b_wid2 bc_0 (by decide) (by decide)) (lv_sub hl [1, 2, 0] rfl) hw hS
  · skip
    have bd445 : (1 : Int) ≤ zi11.toInt ∧ zi11.toInt ≤ 1 := r_ne_lo cn13 bd12 (toi bc_0) (by decide) (by decide)
    refine lv_iconst (v := 0) hx hb dX6_fewest_19 (by decide) ?_
    rw [hQ]
    exact kz_i hx hb hr hlocks hS rfl hp4 hw ⟨ok6, (Fr.put (cq := 7005) (Fr.put (cq := 7004) (Fr.rf) eh2 kd900 (cd_o (by decide)) (by decide)) eh5 kd900 (cd_o (by decide)) (by decide))⟩ (Nat.le_of_ble_eq_true rfl) (Nat.le_of_ble_eq_true rfl) dX6_fewest_20

set_option maxRecDepth 100000 in
set_option maxHeartbeats 4000000 in
theorem cX5_fail_0 (l : Launch) (G : va_G) (cy : Nat → ClassId) (ev : Ew) (K ln : Nat → Nat) (Ls : List Nat) (hW : SW K ln Ls) (sz : Nat) (hp0 : Nat → Nat → Value) (ok0 : Ok K hp0) (qa900 : Nat) (zi901 : Int32) (kd900 : K qa900 = 6) (bd901 : ((1 : Int) ≤ zi901.toInt ∧ zi901.toInt ≤ 2)) : Met l yX5_fail (WS yX5_fail cX5_fail 2 none) { frames := 0, cells := 0, slots := 0, locals := 0 } (PB2 [.ref qa900, .int zi901] sz G cy ev (va_pl Ls (cellOf cy K ln hp0))) (QBv (S := (Nat → Nat → Value)) (fun u : (Nat → Nat → Value) => Ok K u ∧ Fr [6003, 6004] K hp0 u ∧ (∃ z : Int32, u qa900 4 = .int z ∧ ((1 : Int) ≤ z.toInt ∧ z.toInt ≤ 2))) G (fun u => va_pl Ls (cellOf cy K ln u)) (va_A (va_pl Ls (cellOf cy K ln hp0)) sz)) 0 0 (va_A (va_pl Ls (cellOf cy K ln hp0)) sz) := by
  refine met_of2 (y := yX5_fail) (L := 2) (av := [.ref qa900, .int zi901]) (Qc := fun A => QBv (S := (Nat → Nat → Value)) (fun u : (Nat → Nat → Value) => Ok K u ∧ Fr [6003, 6004] K hp0 u ∧ (∃ z : Int32, u qa900 4 = .int z ∧ ((1 : Int) ≤ z.toInt ∧ z.toInt ≤ 2))) G (fun u => va_pl Ls (cellOf cy K ln u)) A) (plainFor_of_name (by decide)) (Nat.le_of_ble_eq_true rfl) ?_
  intro p e s m below meth c hsz hx hb hr hml hown hT hlocks hin hK A hA hE hw hS ls hl
  have hw : PW G cy K ln Ls A hp0 s.heap := hw
  have hown : s.vm.findClass "LieClock$Parser" = some m.cls := hown
  have hl : lv_has ls 2 [(0, .ref qa900), (1, .int zi901)] := hl
  obtain ⟨Q, hQ⟩ : ∃ Q : State → Prop, Q = MQ below (QBv (S := (Nat → Nat → Value)) (fun u : (Nat → Nat → Value) => Ok K u ∧ Fr [6003, 6004] K hp0 u ∧ (∃ z : Int32, u qa900 4 = .int z ∧ ((1 : Int) ≤ z.toInt ∧ z.toInt ≤ 2))) G (fun u => va_pl Ls (cellOf cy K ln u)) A) ([.ref qa900, .int zi901] : List Value).toArray s 0 0 A := ⟨_, rfl⟩
  rw [← hQ]
  refine lv_aload_n hx hb dX5_fail_0 rfl (lv_at hl 0 rfl) ?_
  obtain ⟨zi2, eq1, bd3⟩ := rd_6004 ok0 kd900
  refine p_get (ci := 5) (v := .int zi2) (C := RX5) (T := TX5) (N := 7) hx hb hT iw_X5 hown hK hw hW kd900 (by decide) rfl rfl 4 (by decide) eq1 (hT _ tb_375) (fun _ h9 => h9) dX5_fail_1 ?_
  refine lv_if_ne (tgt := 17) hx hb dX5_fail_4 (by decide) (fun cn4 => ?_) (fun cn4 => ?_)
  · skip
    have bd5 : (1 : Int) ≤ zi2.toInt ∧ zi2.toInt ≤ 2 := r_ne_lo cn4 bd3 (toi bc_0) (by decide) (by decide)
    rw [hQ]
    exact kz_v hx hb hr hlocks hS hp0 hw ⟨ok0, (Fr.rf), ⟨_, eq1, b_wid2 bd5 (by decide) (by decide)⟩⟩ (Nat.le_of_ble_eq_true rfl) (Nat.le_of_ble_eq_true rfl) dX5_fail_17
  · skip
    have bd6 : (0 : Int) ≤ zi2.toInt ∧ zi2.toInt ≤ 0 := r_eq_x cn4 bd3 bc_0 (by decide) (by decide)
    refine lv_aload_n hx hb dX5_fail_7 rfl (lv_at hl 0 rfl) ?_
    refine lv_iload_n hx hb dX5_fail_8 rfl (lv_at hl 1 rfl) ?_
    refine p_put (ci := 5) (v := .int zi901) (ty := .int) (C := RX5) (T := TX5) (N := 7) hx hb hT iw_X5 tyX5 tyX5_ok nmX5 hown hK hw hS hW kd900 (by decide) rfl rfl 4 (by decide) (hT _ tb_375) (fun _ h9 => h9) rfl (by decide +kernel) rfl rfl dX5_fail_9 (fun hp7 eh8 H locs hw hS => ?_)
    have ok9 := wr_6004 bd901 (by decide) (by decide) ok0 kd900 eh8
    refine lv_aload_n hx hb dX5_fail_12 rfl (lv_at hl 0 rfl) ?_
    refine lv_iconst (v := 0) hx hb dX5_fail_13 (by decide) ?_
    refine p_put (ci := 5) (v := .int 0) (ty := .int) (C := RX5) (T := TX5) (N := 7) hx hb hT iw_X5 tyX5 tyX5_ok nmX5 hown hK hw hS hW kd900 (by decide) rfl rfl 3 (by decide) (hT _ tb_374) (fun _ h9 => h9) rfl (by decide +kernel) rfl rfl dX5_fail_14 (fun hp10 eh11 H locs hw hS => ?_)
    have ok12 := wr_6003 ok9 kd900 eh11
    have eq13 : hp10 qa900 4 = .int zi901 := Eq.trans (up_at eh11 (Or.inr (by decide))) (hp_self eh8)
    rw [hQ]
    exact kz_v hx hb hr hlocks hS hp10 hw ⟨ok12, (Fr.put (cq := 6003) (Fr.put (cq := 6004) (Fr.rf) eh8 kd900 (cd_o (by decide)) (by decide)) eh11 kd900 (cd_o (by decide)) (by decide)), ⟨_, eq13, b_wid2 bd901 (by decide) (by decide)⟩⟩ (Nat.le_of_ble_eq_true rfl) (Nat.le_of_ble_eq_true rfl) dX5_fail_17

set_option maxRecDepth 100000 in
set_option maxHeartbeats 4000000 in
theorem cX5_accept_0 (l : Launch) (G : va_G) (cy : Nat → ClassId) (ev : Ew) (K ln : Nat → Nat) (Ls : List Nat) (hW : SW K ln Ls) (sz : Nat) (hp0 : Nat → Nat → Value) (ok0 : Ok K hp0) (qa900 : Nat) (zi901 : Int32) (kd900 : K qa900 = 6) : Met l yX5_accept (WS yX5_accept cX5_accept 2 (some .boolean)) { frames := 0, cells := 0, slots := 0, locals := 0 } (PB2 [.ref qa900, .int zi901] sz G cy ev (va_pl Ls (cellOf cy K ln hp0))) (QBi (S := (Nat → Nat → Value)) (fun (r : Int32) (u : (Nat → Nat → Value)) => Ok K u ∧ Fr [6002, 6003, 6004] K hp0 u ∧ ((0 : Int) ≤ r.toInt ∧ r.toInt ≤ 1) ∧ (r = 1 → ∃ z : Int32, u qa900 2 = .int z ∧ ((1 : Int) ≤ z.toInt ∧ z.toInt ≤ 400)) ∧ (r = 1 → ∃ z : Int32, u qa900 4 = .int z ∧ ((0 : Int) ≤ z.toInt ∧ z.toInt ≤ 0))) G (fun u => va_pl Ls (cellOf cy K ln u)) (va_A (va_pl Ls (cellOf cy K ln hp0)) sz)) 0 0 (va_A (va_pl Ls (cellOf cy K ln hp0)) sz) := by
  refine met_of2 (y := yX5_accept) (L := 2) (av := [.ref qa900, .int zi901]) (Qc := fun A => QBi (S := (Nat → Nat → Value)) (fun (r : Int32) (u : (Nat → Nat → Value)) => Ok K u ∧ Fr [6002, 6003, 6004] K hp0 u ∧ ((0 : Int) ≤ r.toInt ∧ r.toInt ≤ 1) ∧ (r = 1 → ∃ z : Int32, u qa900 2 = .int z ∧ ((1 : Int) ≤ z.toInt ∧ z.toInt ≤ 400)) ∧ (r = 1 → ∃ z : Int32, u qa900 4 = .int z ∧ ((0 : Int) ≤ z.toInt ∧ z.toInt ≤ 0))) G (fun u => va_pl Ls (cellOf cy K ln u)) A) (plainFor_of_name (by decide)) (Nat.le_of_ble_eq_true rfl) ?_
  intro p e s m below meth c hsz hx hb hr hml hown hT hlocks hin hK A hA hE hw hS ls hl
  have hw : PW G cy K ln Ls A hp0 s.heap := hw
  have hown : s.vm.findClass "LieClock$Parser" = some m.cls := hown
  have hl : lv_has ls 2 [(0, .ref qa900), (1, .int zi901)] := hl
  obtain ⟨Q, hQ⟩ : ∃ Q : State → Prop, Q = MQ below (QBi (S := (Nat → Nat → Value)) (fun (r : Int32) (u : (Nat → Nat → Value)) => Ok K u ∧ Fr [6002, 6003, 6004] K hp0 u ∧ ((0 : Int) ≤ r.toInt ∧ r.toInt ≤ 1) ∧ (r = 1 → ∃ z : Int32, u qa900 2 = .int z ∧ ((1 : Int) ≤ z.toInt ∧ z.toInt ≤ 400)) ∧ (r = 1 → ∃ z : Int32, u qa900 4 = .int z ∧ ((0 : Int) ≤ z.toInt ∧ z.toInt ≤ 0))) G (fun u => va_pl Ls (cellOf cy K ln u)) A) ([.ref qa900, .int zi901] : List Value).toArray s 0 0 A := ⟨_, rfl⟩
  rw [← hQ]
  refine lv_aload_n hx hb dX5_accept_0 rfl (lv_at hl 0 rfl) ?_
  obtain ⟨zi2, eq1⟩ := rd_6003 ok0 kd900
  refine p_get (ci := 5) (v := .int zi2) (C := RX5) (T := TX5) (N := 7) hx hb hT iw_X5 hown hK hw hW kd900 (by decide) rfl rfl 3 (by decide) eq1 (hT _ tb_374) (fun _ h9 => h9) dX5_accept_1 ?_
  refine lv_iload_n hx hb dX5_accept_4 rfl (lv_at hl 1 rfl) ?_
  refine lv_icmp_ne (tgt := 15) hx hb dX5_accept_5 (by decide) (fun cn3 => ?_) (fun cn3 => ?_)
  · skip
    refine lv_iconst (v := 0) hx hb dX5_accept_15 (by decide) ?_
    rw [hQ]
    exact kz_i hx hb hr hlocks hS (nz_n bc_0 (by decide) (by decide)) hp0 hw ⟨ok0, (Fr.rf), (b_wid2 bc_0 (by decide) (by decide)), (fun h => absurd h (by decide)), (fun h => absurd h (by decide))⟩ (Nat.le_of_ble_eq_true rfl) (Nat.le_of_ble_eq_true rfl) dX5_accept_16
  · skip
    refine lv_aload_n hx hb dX5_accept_8 rfl (lv_at hl 0 rfl) ?_
    obtain ⟨zi5, eq4, bd6⟩ := rd_6004 ok0 kd900
    refine p_get (ci := 5) (v := .int zi5) (C := RX5) (T := TX5) (N := 7) hx hb hT iw_X5 hown hK hw hW kd900 (by decide) rfl rfl 4 (by decide) eq4 (hT _ tb_375) (fun _ h9 => h9) dX5_accept_9 ?_
    refine lv_if_eq (tgt := 17) hx hb dX5_accept_12 (by decide) (fun cn7 => ?_) (fun cn7 => ?_)
    · skip
      have bd8 : (0 : Int) ≤ zi5.toInt ∧ zi5.toInt ≤ 0 := r_eq_x cn7 bd6 bc_0 (by decide) (by decide)
      refine lv_aload_n hx hb dX5_accept_17 rfl (lv_at hl 0 rfl) ?_
      obtain ⟨zi10, eq9, bd11⟩ := rd_6002 ok0 kd900
      refine p_get (ci := 5) (v := .int zi10) (C := RX5) (T := TX5) (N := 7) hx hb hT iw_X5 hown hK hw hW kd900 (by decide) rfl rfl 2 (by decide) eq9 (hT _ tb_373) (fun _ h9 => h9) dX5_accept_18 ?_
      refine lv_sipush (v := 400) hx hb dX5_accept_21 (by decide) ?_
      refine lv_icmp_lt (tgt := 39) hx hb dX5_accept_24 (by decide) (fun cn12 => ?_) (fun cn12 => ?_)
      · skip
        have bd13 : (0 : Int) ≤ zi10.toInt ∧ zi10.toInt ≤ 399 := r_lt_x cn12 bd11 bc_400 (by decide) (by decide)
        refine lv_aload_n hx hb dX5_accept_39 rfl (lv_at hl 0 rfl) ?_
        refine lv_dup hx hb dX5_accept_40 rfl ?_
        refine p_get (ci := 5) (v := .int zi10) (C := RX5) (T := TX5) (N := 7) hx hb hT iw_X5 hown hK hw hW kd900 (by decide) rfl rfl 2 (by decide) eq9 (hT _ tb_373) (fun _ h9 => h9) dX5_accept_41 ?_
        refine lv_iconst (v := 1) hx hb dX5_accept_44 (by decide) ?_
        refine lv_iadd hx hb dX5_accept_45 (lv_topi (fun zi14 ea15 => ?_))
        have bd16 : (1 : Int) ≤ zi14.toInt ∧ zi14.toInt ≤ 400 := b_iadd ea15 bd13 bc_1 (by decide) (by decide) (by decide) (by decide)
        have qe17 : zi14.toInt = (zi10 : Int32).toInt + (1 : Int32).toInt := e_iadd ea15 bd13 bc_1 (by decide) (by decide)
        have qe18 : zi14.toInt = zi10.toInt + 1 := by have ha : (1 : Int32).toInt = 1 := (by decide); rw [ha] at qe17; exact qe17
        refine p_put (ci := 5) (v := .int zi14) (ty := .int) (C := RX5) (T := TX5) (N := 7) hx hb hT iw_X5 tyX5 tyX5_ok nmX5 hown hK hw hS hW kd900 (by decide) rfl rfl 2 (by decide) (hT _ tb_373) (fun _ h9 => h9) rfl (by decide +kernel) rfl rfl dX5_accept_46 (fun hp19 eh20 H locs hw hS => ?_)
        have ok21 := wr_6002 bd16 (by decide) (by decide) ok0 kd900 eh20
        refine lv_aload_n hx hb dX5_accept_49 rfl (lv_at hl 0 rfl) ?_
        refine lv_aload_n hx hb dX5_accept_50 rfl (lv_at hl 0 rfl) ?_
        obtain ⟨qa23, eq22, kd24⟩ := rd_6000 ok21 kd900
        refine p_get (ci := 5) (v := .ref qa23) (C := RX5) (T := TX5) (N := 7) hx hb hT iw_X5 hown hK hw hW kd900 (by decide) rfl rfl 0 (by decide) eq22 (hT _ tb_371) (fun _ h9 => h9) dX5_accept_51 ?_
        obtain ⟨qa26, eq25, kd27⟩ := rd_10000 ok21 kd24
        refine p_getN (ci := 9) (v := .ref qa26) (C := RX9) (T := TX9) (N := 5) hx hb hT iw_X9 hown hK hw hW kd24 (by decide) rfl rfl 0 (by decide) eq25 (hK.fl nw_250) (fun _ h9 => h9) dX5_accept_54 ?_
        refine lv_aload_n hx hb dX5_accept_57 rfl (lv_at hl 0 rfl) ?_
        refine p_get (ci := 5) (v := .int zi14) (C := RX5) (T := TX5) (N := 7) hx hb hT iw_X5 hown hK hw hW kd900 (by decide) rfl rfl 2 (by decide) (hp_self eh20) (hT _ tb_373) (fun _ h9 => h9) dX5_accept_58 ?_
        obtain ⟨zi29, eq28⟩ := rd_44000 ok21 kd27 ((zi14 : Int32).toNatClampNeg)
        refine p_iald (v := zi29) hx hb hK hw hW kd27 (by decide) rfl (hW.len kd27 (n := 401) rfl (by decide)) (vp_b bd16 (by decide) (by decide)) eq28 dX5_accept_61 ?_
        refine p_put (ci := 5) (v := .int zi29) (ty := .int) (C := RX5) (T := TX5) (N := 7) hx hb hT iw_X5 tyX5 tyX5_ok nmX5 hown hK hw hS hW kd900 (by decide) rfl rfl 3 (by decide) (hT _ tb_374) (fun _ h9 => h9) rfl (by decide +kernel) rfl rfl dX5_accept_62 (fun hp30 eh31 H locs hw hS => ?_)
        have ok32 := wr_6003 ok21 kd900 eh31
        refine lv_iconst (v := 1) hx hb dX5_accept_65 (by decide) ?_
        have eq33 : hp30 qa900 2 = .int zi14 := Eq.trans (up_at eh31 (Or.inr (by decide))) (hp_self eh20)
        have eq34 : hp30 qa900 4 = .int zi5 := Eq.trans (up_at eh31 (Or.inr (by decide))) (Eq.trans (up_at eh20 (Or.inr (by decide))) eq4)
        rw [hQ]
        exact kz_i hx hb hr hlocks hS (nz_n bc_1 (by decide) (by decide)) hp30 hw ⟨ok32, (Fr.put (cq := 6003) (Fr.put (cq := 6002) (Fr.rf) eh20 kd900 (cd_o (by decide)) (by decide)) eh31 kd900 (cd_o (by decide)) (by decide)), (b_wid2 bc_1 (by decide) (by decide)), (fun _ => ⟨_, eq33, b_wid2 bd16 (by decide) (by decide)⟩), (fun _ => ⟨_, eq34, b_wid2 bd8 (by decide) (by decide)⟩)⟩ (Nat.le_of_ble_eq_true rfl) (Nat.le_of_ble_eq_true rfl) dX5_accept_66
      · skip
        have bd35 : (400 : Int) ≤ zi10.toInt ∧ zi10.toInt ≤ 400 := r_le_y (Int32.not_lt.mp cn12) bc_400 bd11 (by decide) (by decide)
        refine lv_aload_n hx hb dX5_accept_27 rfl (lv_at hl 0 rfl) ?_
        refine lv_iconst (v := 2) hx hb dX5_accept_28 (by decide) ?_
        refine p_put (ci := 5) (v := .int 2) (ty := .int) (C := RX5) (T := TX5) (N := 7) hx hb hT iw_X5 tyX5 tyX5_ok nmX5 hown hK hw hS hW kd900 (by decide) rfl rfl 4 (by decide) (hT _ tb_375) (fun _ h9 => h9) rfl (by decide +kernel) rfl rfl dX5_accept_29 (fun hp36 eh37 H locs hw hS => ?_)
        have ok38 := wr_6004 bc_2 (by decide) (by decide) ok0 kd900 eh37
        refine lv_aload_n hx hb dX5_accept_32 rfl (lv_at hl 0 rfl) ?_
        refine lv_iconst (v := 0) hx hb dX5_accept_33 (by decide) ?_
        refine p_put (ci := 5) (v := .int 0) (ty := .int) (C := RX5) (T := TX5) (N := 7) hx hb hT iw_X5 tyX5 tyX5_ok nmX5 hown hK hw hS hW kd900 (by decide) rfl rfl 3 (by decide) (hT _ tb_374) (fun _ h9 => h9) rfl (by decide +kernel) rfl rfl dX5_accept_34 (fun hp39 eh40 H locs hw hS => ?_)
        have ok41 := wr_6003 ok38 kd900 eh40
        refine lv_iconst (v := 0) hx hb dX5_accept_37 (by decide) ?_
        rw [hQ]
        exact kz_i hx hb hr hlocks hS (nz_n bc_0 (by decide) (by decide)) hp39 hw ⟨ok41, (Fr.put (cq := 6003) (Fr.put (cq := 6004) (Fr.rf) eh37 kd900 (cd_o (by decide)) (by decide)) eh40 kd900 (cd_o (by decide)) (by decide)), (b_wid2 bc_0 (by decide) (by decide)), (fun h => absurd h (by decide)), (fun h => absurd h (by decide))⟩ (Nat.le_of_ble_eq_true rfl) (Nat.le_of_ble_eq_true rfl) dX5_accept_38
    · skip
      have bd42 : (1 : Int) ≤ zi5.toInt ∧ zi5.toInt ≤ 2 := r_ne_lo cn7 bd6 (toi bc_0) (by decide) (by decide)
      refine lv_iconst (v := 0) hx hb dX5_accept_15 (by decide) ?_
      rw [hQ]
      exact kz_i hx hb hr hlocks hS (nz_n bc_0 (by decide) (by decide)) hp0 hw ⟨ok0, (Fr.rf), (b_wid2 bc_0 (by decide) (by decide)), (fun h => absurd h (by decide)), (fun h => absurd h (by decide))⟩ (Nat.le_of_ble_eq_true rfl) (Nat.le_of_ble_eq_true rfl) dX5_accept_16

set_option maxRecDepth 100000 in
set_option maxHeartbeats 4000000 in
theorem cX5_begin_0 (l : Launch) (G : va_G) (cy : Nat → ClassId) (ev : Ew) (K ln : Nat → Nat) (Ls : List Nat) (hW : SW K ln Ls) (sz : Nat) (hp0 : Nat → Nat → Value) (ok0 : Ok K hp0) (qa900 : Nat) (zi901 : Int32) (zi902 : Int32) (kd900 : K qa900 = 6) : Met l yX5_begin (WS yX5_begin cX5_begin 3 none) { frames := 1, cells := 0, slots := 0, locals := 21 } (PB2 [.ref qa900, .int zi901, .int zi902] sz G cy ev (va_pl Ls (cellOf cy K ln hp0))) (QBv (S := (Nat → Nat → Value)) (fun u : (Nat → Nat → Value) => Ok K u ∧ Fr [6002, 6003, 6004] K hp0 u) G (fun u => va_pl Ls (cellOf cy K ln u)) (va_A (va_pl Ls (cellOf cy K ln hp0)) sz)) 0 0 (va_A (va_pl Ls (cellOf cy K ln hp0)) sz) := by
  refine met_of2 (y := yX5_begin) (L := 3) (av := [.ref qa900, .int zi901, .int zi902]) (Qc := fun A => QBv (S := (Nat → Nat → Value)) (fun u : (Nat → Nat → Value) => Ok K u ∧ Fr [6002, 6003, 6004] K hp0 u) G (fun u => va_pl Ls (cellOf cy K ln u)) A) (plainFor_of_name (by decide)) (Nat.le_of_ble_eq_true rfl) ?_
  intro p e s m below meth c hsz hx hb hr hml hown hT hlocks hin hK A hA hE hw hS ls hl
  have hw : PW G cy K ln Ls A hp0 s.heap := hw
  have hown : s.vm.findClass "LieClock$Parser" = some m.cls := hown
  have hl : lv_has ls 3 [(0, .ref qa900), (1, .int zi901), (2, .int zi902)] := hl
  obtain ⟨Q, hQ⟩ : ∃ Q : State → Prop, Q = MQ below (QBv (S := (Nat → Nat → Value)) (fun u : (Nat → Nat → Value) => Ok K u ∧ Fr [6002, 6003, 6004] K hp0 u) G (fun u => va_pl Ls (cellOf cy K ln u)) A) ([.ref qa900, .int zi901, .int zi902] : List Value).toArray s 0 0 A := ⟨_, rfl⟩
  rw [← hQ]
  refine lv_iload_n hx hb dX5_begin_0 rfl (lv_at hl 1 rfl) ?_
  refine lv_iload_n hx hb dX5_begin_1 rfl (lv_at hl 2 rfl) ?_
  have jn15 : ∀ (hp12 : Nat → Nat → Value)  (H : Heap) (locs : List Loc) (ls : Array Slot), Ok K hp12 → Fr [6003, 6004] K hp0 hp12 → lv_has ls 3 [(0, .ref qa900)] → PW G cy K ln Ls A hp12 H → va_S A s.heap H locs → W p l e ({ frames := 1, cells := 0, slots := 0, locals := 21 } : Room) s m ([.ref qa900, .int zi901, .int zi902] : List Value).toArray below meth c H locs 0 0 Q (F0 m 10 ls []) := by
    intro hp12 H locs ls ok14 F13 hl hw hS
    refine lv_aload_n hx hb dX5_begin_10 rfl (lv_at hl 0 rfl) ?_
    refine lv_aload_n hx hb dX5_begin_11 rfl (lv_at hl 0 rfl) ?_
    obtain ⟨zi17, eq16⟩ := rd_6003 ok14 kd900
    refine p_get (ci := 5) (v := .int zi17) (C := RX5) (T := TX5) (N := 7) hx hb hT iw_X5 hown hK hw hW kd900 (by decide) rfl rfl 3 (by decide) eq16 (hT _ tb_374) (fun _ h9 => h9) dX5_begin_12 ?_
    refine kq_i hw hS hA (va_runV (As := [.int zi17]) (rest := []) ⟨hx, hb, hml, hown, hT⟩ (cX5_accept_0 l G cy ev K ln Ls hW _ hp12 ok14 qa900 zi17 kd900) (cwV 1 hT (good_V tb_854 tb_851 tb_853 tb_8 tb_109) rfl rfl rfl (by decide +kernel) ⟨Nat.le_of_ble_eq_true rfl, Nat.le_of_ble_eq_true rfl⟩) (pool_preV (ci := 5) hK hE hS hA hw hW kd900 (by decide) rfl) rfl rfl hl.1 rfl (lv_room (Nat.le_of_ble_eq_true rfl)) dX5_begin_15 ⟨Nat.le_of_ble_eq_true rfl, Nat.le_of_ble_eq_true rfl⟩) (fun zi22 hp18 H locs hq21 hw hS => ?_)
    obtain ⟨ok19, F20, bd23, hc24, hc25⟩ := hq21
    have hw : PW G cy K ln Ls A hp18 H := hw
    refine lv_pop hx hb dX5_begin_18 rfl ?_
    rw [hQ]
    exact kz_v hx hb hr hlocks hS hp18 hw ⟨ok19, (Fr.tr (Fr.tr (Fr.rf) F13 (by decide)) F20 (by decide))⟩ (Nat.le_of_ble_eq_true rfl) (Nat.le_of_ble_eq_true rfl) dX5_begin_19
  refine lv_icmp_lt (tgt := 10) hx hb dX5_begin_2 (by decide) (fun cn1 => ?_) (fun cn1 => ?_)
  · skip
    have bd26 : (-2147483648 : Int) ≤ zi901.toInt ∧ zi901.toInt ≤ 2147483646 := r_lt_x cn1 (b_all zi901) (b_all zi902) (by decide) (by decide)
    have bd27 : (-2147483647 : Int) ≤ zi902.toInt ∧ zi902.toInt ≤ 2147483647 := r_lt_y cn1 (b_all zi901) (b_all zi902) (by decide) (by decide)
    exact jn15 hp0 _ _ ls ok0 (Fr.rf) (lv_sub hl [0] rfl) hw hS
  · skip
    refine lv_aload_n hx hb dX5_begin_5 rfl (lv_at hl 0 rfl) ?_
    refine lv_iconst (v := 2) hx hb dX5_begin_6 (by decide) ?_
    refine kq_v hw hS hA (va_runV (As := [.int 2]) (rest := []) ⟨hx, hb, hml, hown, hT⟩ (cX5_fail_0 l G cy ev K ln Ls hW _ hp0 ok0 qa900 2 kd900 (b_wid2 bc_2 (by decide) (by decide))) (cwV 1 hT (good_V tb_850 tb_847 tb_849 tb_7 tb_109) rfl rfl rfl (by decide +kernel) ⟨Nat.le_of_ble_eq_true rfl, Nat.le_of_ble_eq_true rfl⟩) (pool_preV (ci := 5) hK hE hS hA hw hW kd900 (by decide) rfl) rfl rfl hl.1 rfl (lv_room (Nat.le_of_ble_eq_true rfl)) dX5_begin_7 ⟨Nat.le_of_ble_eq_true rfl, Nat.le_of_ble_eq_true rfl⟩) (fun hp28 H locs hq31 hw hS => ?_)
    obtain ⟨ok29, F30, ⟨zi33, eq34, bd35⟩⟩ := hq31
    have hw : PW G cy K ln Ls A hp28 H := hw
    exact jn15 hp28 _ _ ls ok29 (Fr.tr (Fr.rf) F30 (by decide)) (lv_sub hl [0] rfl) hw hS

set_option maxRecDepth 100000 in
set_option maxHeartbeats 4000000 in
theorem cX5_take_0 (l : Launch) (G : va_G) (cy : Nat → ClassId) (ev : Ew) (K ln : Nat → Nat) (Ls : List Nat) (hW : SW K ln Ls) (sz : Nat) (hp0 : Nat → Nat → Value) (ok0 : Ok K hp0) (qa900 : Nat) (zi901 : Int32) (kd900 : K qa900 = 6) : Met l yX5_take (WS yX5_take cX5_take 2 (some .long)) { frames := 1, cells := 0, slots := 0, locals := 21 } (PB2 [.ref qa900, .int zi901] sz G cy ev (va_pl Ls (cellOf cy K ln hp0))) (QBl (S := (Nat → Nat → Value)) (fun (r : Int64) (u : (Nat → Nat → Value)) => Ok K u ∧ Fr [6002, 6003, 6004] K hp0 u) G (fun u => va_pl Ls (cellOf cy K ln u)) (va_A (va_pl Ls (cellOf cy K ln hp0)) sz)) 0 0 (va_A (va_pl Ls (cellOf cy K ln hp0)) sz) := by
  refine met_of2 (y := yX5_take) (L := 2) (av := [.ref qa900, .int zi901]) (Qc := fun A => QBl (S := (Nat → Nat → Value)) (fun (r : Int64) (u : (Nat → Nat → Value)) => Ok K u ∧ Fr [6002, 6003, 6004] K hp0 u) G (fun u => va_pl Ls (cellOf cy K ln u)) A) (plainFor_of_name (by decide)) (Nat.le_of_ble_eq_true rfl) ?_
  intro p e s m below meth c hsz hx hb hr hml hown hT hlocks hin hK A hA hE hw hS ls hl
  have hw : PW G cy K ln Ls A hp0 s.heap := hw
  have hown : s.vm.findClass "LieClock$Parser" = some m.cls := hown
  have hl : lv_has ls 2 [(0, .ref qa900), (1, .int zi901)] := hl
  obtain ⟨Q, hQ⟩ : ∃ Q : State → Prop, Q = MQ below (QBl (S := (Nat → Nat → Value)) (fun (r : Int64) (u : (Nat → Nat → Value)) => Ok K u ∧ Fr [6002, 6003, 6004] K hp0 u) G (fun u => va_pl Ls (cellOf cy K ln u)) A) ([.ref qa900, .int zi901] : List Value).toArray s 0 0 A := ⟨_, rfl⟩
  rw [← hQ]
  refine lv_aload_n hx hb dX5_take_0 rfl (lv_at hl 0 rfl) ?_
  refine lv_iload_n hx hb dX5_take_1 rfl (lv_at hl 1 rfl) ?_
  refine kq_i hw hS hA (va_runV (As := [.int zi901]) (rest := []) ⟨hx, hb, hml, hown, hT⟩ (cX5_accept_0 l G cy ev K ln Ls hW _ hp0 ok0 qa900 zi901 kd900) (cwV 1 hT (good_V tb_854 tb_851 tb_853 tb_8 tb_109) rfl rfl rfl (by decide +kernel) ⟨Nat.le_of_ble_eq_true rfl, Nat.le_of_ble_eq_true rfl⟩) (pool_preV (ci := 5) hK hE hS hA hw hW kd900 (by decide) rfl) rfl rfl hl.1 rfl (lv_room (Nat.le_of_ble_eq_true rfl)) dX5_take_2 ⟨Nat.le_of_ble_eq_true rfl, Nat.le_of_ble_eq_true rfl⟩) (fun zi5 hp1 H locs hq4 hw hS => ?_)
  obtain ⟨ok2, F3, bd6, hc7, hc8⟩ := hq4
  have hw : PW G cy K ln Ls A hp1 H := hw
  rcases b01 bd6 with cn9 | cn9
  · skip
    subst cn9
    refine lv_if_ne (tgt := 15) hx hb dX5_take_5 (by decide) (fun c => absurd (d_eq bc_0 bc_0) c) (fun _ => ?_)
    refine lv_aload_n hx hb dX5_take_8 rfl (lv_at hl 0 rfl) ?_
    refine lv_iconst (v := 1) hx hb dX5_take_9 (by decide) ?_
    refine kq_v hw hS hA (va_runV (As := [.int 1]) (rest := []) ⟨hx, hb, hml, hown, hT⟩ (cX5_fail_0 l G cy ev K ln Ls hW _ hp1 ok2 qa900 1 kd900 (b_wid2 bc_1 (by decide) (by decide))) (cwV 1 hT (good_V tb_850 tb_847 tb_849 tb_7 tb_109) rfl rfl rfl (by decide +kernel) ⟨Nat.le_of_ble_eq_true rfl, Nat.le_of_ble_eq_true rfl⟩) (pool_preV (ci := 5) hK hE hS hA hw hW kd900 (by decide) rfl) rfl rfl hl.1 rfl (lv_room (Nat.le_of_ble_eq_true rfl)) dX5_take_10 ⟨Nat.le_of_ble_eq_true rfl, Nat.le_of_ble_eq_true rfl⟩) (fun hp10 H locs hq13 hw hS => ?_)
    obtain ⟨ok11, F12, ⟨zi15, eq16, bd17⟩⟩ := hq13
    have hw : PW G cy K ln Ls A hp10 H := hw
    refine lv_lconst (v := 0) hx hb dX5_take_13 (by decide) ?_
    rw [hQ]
    exact kz_l hx hb hr hlocks hS hp10 hw ⟨ok11, (Fr.tr (Fr.tr (Fr.rf) F3 (by decide)) F12 (by decide))⟩ (Nat.le_of_ble_eq_true rfl) (Nat.le_of_ble_eq_true rfl) dX5_take_14
  · skip
    subst cn9
    obtain ⟨zi18, eq19, bd20⟩ := hc7 rfl
    obtain ⟨zi21, eq22, bd23⟩ := hc8 rfl
    refine lv_if_ne (tgt := 15) hx hb dX5_take_5 (by decide) (fun _ => ?_) (fun c => absurd c (d_ne bc_1 bc_0 (by decide)))
    refine lv_aload_n hx hb dX5_take_15 rfl (lv_at hl 0 rfl) ?_
    obtain ⟨qa25, eq24, kd26⟩ := rd_6000 ok2 kd900
    refine p_get (ci := 5) (v := .ref qa25) (C := RX5) (T := TX5) (N := 7) hx hb hT iw_X5 hown hK hw hW kd900 (by decide) rfl rfl 0 (by decide) eq24 (hT _ tb_371) (fun _ h9 => h9) dX5_take_16 ?_
    obtain ⟨qa28, eq27, kd29⟩ := rd_10002 ok2 kd26
    refine p_getN (ci := 9) (v := .ref qa28) (C := RX9) (T := TX9) (N := 5) hx hb hT iw_X9 hown hK hw hW kd26 (by decide) rfl rfl 2 (by decide) eq27 (hK.fl nw_253) (fun _ h9 => h9) dX5_take_19 ?_
    refine lv_aload_n hx hb dX5_take_22 rfl (lv_at hl 0 rfl) ?_
    refine p_get (ci := 5) (v := .int zi18) (C := RX5) (T := TX5) (N := 7) hx hb hT iw_X5 hown hK hw hW kd900 (by decide) rfl rfl 2 (by decide) eq19 (hT _ tb_373) (fun _ h9 => h9) dX5_take_23 ?_
    refine lv_iconst (v := 1) hx hb dX5_take_26 (by decide) ?_
    refine lv_isub hx hb dX5_take_27 (lv_topi (fun zi30 ea31 => ?_))
    have bd32 : (0 : Int) ≤ zi30.toInt ∧ zi30.toInt ≤ 399 := b_isub ea31 bd20 bc_1 (by decide) (by decide) (by decide) (by decide)
    have qe33 : zi30.toInt = (zi18 : Int32).toInt - (1 : Int32).toInt := e_isub ea31 bd20 bc_1 (by decide) (by decide)
    have qe34 : zi30.toInt = zi18.toInt - 1 := by have ha : (1 : Int32).toInt = 1 := (by decide); rw [ha] at qe33; exact qe33
    obtain ⟨wl36, eq35⟩ := rd_46000 ok2 kd29 ((zi30 : Int32).toNatClampNeg)
    refine p_lald (v := wl36) hx hb hK hw hW kd29 (by decide) rfl (hW.len kd29 (n := 401) rfl (by decide)) (vp_b bd32 (by decide) (by decide)) eq35 dX5_take_28 ?_
    rw [hQ]
    exact kz_l hx hb hr hlocks hS hp1 hw ⟨ok2, (Fr.tr (Fr.rf) F3 (by decide))⟩ (Nat.le_of_ble_eq_true rfl) (Nat.le_of_ble_eq_true rfl) dX5_take_29

set_option maxRecDepth 100000 in
set_option maxHeartbeats 4000000 in
theorem cX5_failSoftly_0 (l : Launch) (G : va_G) (cy : Nat → ClassId) (ev : Ew) (K ln : Nat → Nat) (Ls : List Nat) (hW : SW K ln Ls) (sz : Nat) (hp0 : Nat → Nat → Value) (ok0 : Ok K hp0) (qa900 : Nat) (zi901 : Int32) (kd900 : K qa900 = 6) : Met l yX5_failSoftly (WS yX5_failSoftly cX5_failSoftly 2 none) { frames := 1, cells := 0, slots := 0, locals := 21 } (PB2 [.ref qa900, .int zi901] sz G cy ev (va_pl Ls (cellOf cy K ln hp0))) (QBv (S := (Nat → Nat → Value)) (fun u : (Nat → Nat → Value) => Ok K u ∧ Fr [6005, 6006] K hp0 u) G (fun u => va_pl Ls (cellOf cy K ln u)) (va_A (va_pl Ls (cellOf cy K ln hp0)) sz)) 0 0 (va_A (va_pl Ls (cellOf cy K ln hp0)) sz) := by
  refine met_of2 (y := yX5_failSoftly) (L := 2) (av := [.ref qa900, .int zi901]) (Qc := fun A => QBv (S := (Nat → Nat → Value)) (fun u : (Nat → Nat → Value) => Ok K u ∧ Fr [6005, 6006] K hp0 u) G (fun u => va_pl Ls (cellOf cy K ln u)) A) (plainFor_of_name (by decide)) (Nat.le_of_ble_eq_true rfl) ?_
  intro p e s m below meth c hsz hx hb hr hml hown hT hlocks hin hK A hA hE hw hS ls hl
  have hw : PW G cy K ln Ls A hp0 s.heap := hw
  have hown : s.vm.findClass "LieClock$Parser" = some m.cls := hown
  have hl : lv_has ls 2 [(0, .ref qa900), (1, .int zi901)] := hl
  obtain ⟨Q, hQ⟩ : ∃ Q : State → Prop, Q = MQ below (QBv (S := (Nat → Nat → Value)) (fun u : (Nat → Nat → Value) => Ok K u ∧ Fr [6005, 6006] K hp0 u) G (fun u => va_pl Ls (cellOf cy K ln u)) A) ([.ref qa900, .int zi901] : List Value).toArray s 0 0 A := ⟨_, rfl⟩
  rw [← hQ]
  refine lv_aload_n hx hb dX5_failSoftly_0 rfl (lv_at hl 0 rfl) ?_
  obtain ⟨zi2, eq1, bd3⟩ := rd_6004 ok0 kd900
  refine p_get (ci := 5) (v := .int zi2) (C := RX5) (T := TX5) (N := 7) hx hb hT iw_X5 hown hK hw hW kd900 (by decide) rfl rfl 4 (by decide) eq1 (hT _ tb_375) (fun _ h9 => h9) dX5_failSoftly_1 ?_
  refine lv_if_ne (tgt := 36) hx hb dX5_failSoftly_4 (by decide) (fun cn4 => ?_) (fun cn4 => ?_)
  · skip
    have bd5 : (1 : Int) ≤ zi2.toInt ∧ zi2.toInt ≤ 2 := r_ne_lo cn4 bd3 (toi bc_0) (by decide) (by decide)
    rw [hQ]
    exact kz_v hx hb hr hlocks hS hp0 hw ⟨ok0, (Fr.rf)⟩ (Nat.le_of_ble_eq_true rfl) (Nat.le_of_ble_eq_true rfl) dX5_failSoftly_36
  · skip
    have bd6 : (0 : Int) ≤ zi2.toInt ∧ zi2.toInt ≤ 0 := r_eq_x cn4 bd3 bc_0 (by decide) (by decide)
    refine lv_aload_n hx hb dX5_failSoftly_7 rfl (lv_at hl 0 rfl) ?_
    obtain ⟨zi8, eq7⟩ := rd_6005 ok0 kd900
    refine p_get (ci := 5) (v := .int zi8) (C := RX5) (T := TX5) (N := 7) hx hb hT iw_X5 hown hK hw hW kd900 (by decide) rfl rfl 5 (by decide) eq7 (hT _ tb_376) (fun _ h9 => h9) dX5_failSoftly_8 ?_
    refine lv_if_ne (tgt := 36) hx hb dX5_failSoftly_11 (by decide) (fun cn9 => ?_) (fun cn9 => ?_)
    · skip
      rw [hQ]
      exact kz_v hx hb hr hlocks hS hp0 hw ⟨ok0, (Fr.rf)⟩ (Nat.le_of_ble_eq_true rfl) (Nat.le_of_ble_eq_true rfl) dX5_failSoftly_36
    · skip
      have bd10 : (0 : Int) ≤ zi8.toInt ∧ zi8.toInt ≤ 0 := r_eq_x cn9 (b_all zi8) bc_0 (by decide) (by decide)
      refine lv_aload_n hx hb dX5_failSoftly_14 rfl (lv_at hl 0 rfl) ?_
      refine lv_iload_n hx hb dX5_failSoftly_15 rfl (lv_at hl 1 rfl) ?_
      refine p_put (ci := 5) (v := .int zi901) (ty := .int) (C := RX5) (T := TX5) (N := 7) hx hb hT iw_X5 tyX5 tyX5_ok nmX5 hown hK hw hS hW kd900 (by decide) rfl rfl 5 (by decide) (hT _ tb_376) (fun _ h9 => h9) rfl (by decide +kernel) rfl rfl dX5_failSoftly_16 (fun hp11 eh12 H locs hw hS => ?_)
      have ok13 := wr_6005 ok0 kd900 eh12
      refine lv_aload_n hx hb dX5_failSoftly_19 rfl (lv_at hl 0 rfl) ?_
      refine lv_aload_n hx hb dX5_failSoftly_20 rfl (lv_at hl 0 rfl) ?_
      obtain ⟨qa15, eq14, kd16⟩ := rd_6000 ok13 kd900
      refine p_get (ci := 5) (v := .ref qa15) (C := RX5) (T := TX5) (N := 7) hx hb hT iw_X5 hown hK hw hW kd900 (by decide) rfl rfl 0 (by decide) eq14 (hT _ tb_371) (fun _ h9 => h9) dX5_failSoftly_21 ?_
      refine lv_aload_n hx hb dX5_failSoftly_24 rfl (lv_at hl 0 rfl) ?_
      obtain ⟨zi18, eq17, bd19⟩ := rd_6002 ok13 kd900
      refine p_get (ci := 5) (v := .int zi18) (C := RX5) (T := TX5) (N := 7) hx hb hT iw_X5 hown hK hw hW kd900 (by decide) rfl rfl 2 (by decide) eq17 (hT _ tb_373) (fun _ h9 => h9) dX5_failSoftly_25 ?_
      refine lv_iconst (v := 1) hx hb dX5_failSoftly_28 (by decide) ?_
      refine lv_isub hx hb dX5_failSoftly_29 (lv_topi (fun zi20 ea21 => ?_))
      have bd22 : (-1 : Int) ≤ zi20.toInt ∧ zi20.toInt ≤ 399 := b_isub ea21 bd19 bc_1 (by decide) (by decide) (by decide) (by decide)
      have qe23 : zi20.toInt = (zi18 : Int32).toInt - (1 : Int32).toInt := e_isub ea21 bd19 bc_1 (by decide) (by decide)
      have qe24 : zi20.toInt = zi18.toInt - 1 := by have ha : (1 : Int32).toInt = 1 := (by decide); rw [ha] at qe23; exact qe23
      refine kq_i hw hS hA (va_runV (As := [.int zi20]) (rest := [.ref qa900]) ⟨hx, hb, hml, hown, hT⟩ (cX9_placeAt_0 l G cy ev K ln Ls hW _ hp11 ok13 qa15 zi20 kd16) (cwV 1 hT (good_V tb_885 tb_882 tb_883 tb_884 tb_110) rfl rfl rfl (by decide +kernel) ⟨Nat.le_of_ble_eq_true rfl, Nat.le_of_ble_eq_true rfl⟩) (pool_preV (ci := 9) hK hE hS hA hw hW kd16 (by decide) rfl) rfl rfl hl.1 rfl (lv_room (Nat.le_of_ble_eq_true rfl)) dX5_failSoftly_30 ⟨Nat.le_of_ble_eq_true rfl, Nat.le_of_ble_eq_true rfl⟩) (fun zi29 hp25 H locs hq28 hw hS => ?_)
      obtain ⟨ok26, F27⟩ := hq28
      obtain rfl : hp11 = hp25 := (Fr.nil F27).symm
      have hw : PW G cy K ln Ls A hp11 H := hw
      refine p_put (ci := 5) (v := .int zi29) (ty := .int) (C := RX5) (T := TX5) (N := 7) hx hb hT iw_X5 tyX5 tyX5_ok nmX5 hown hK hw hS hW kd900 (by decide) rfl rfl 6 (by decide) (hT _ tb_377) (fun _ h9 => h9) rfl (by decide +kernel) rfl rfl dX5_failSoftly_33 (fun hp30 eh31 H locs hw hS => ?_)
      have ok32 := wr_6006 ok13 kd900 eh31
      rw [hQ]
      exact kz_v hx hb hr hlocks hS hp30 hw ⟨ok32, (Fr.put (cq := 6006) (Fr.put (cq := 6005) (Fr.rf) eh12 kd900 (cd_o (by decide)) (by decide)) eh31 kd900 (cd_o (by decide)) (by decide))⟩ (Nat.le_of_ble_eq_true rfl) (Nat.le_of_ble_eq_true rfl) dX5_failSoftly_36

set_option maxRecDepth 100000 in
set_option maxHeartbeats 4000000 in
theorem cX5_takeNewName_0 (l : Launch) (G : va_G) (cy : Nat → ClassId) (ev : Ew) (K ln : Nat → Nat) (Ls : List Nat) (hW : SW K ln Ls) (sz : Nat) (hp0 : Nat → Nat → Value) (ok0 : Ok K hp0) (qa900 : Nat) (kd900 : K qa900 = 6) : Met l yX5_takeNewName (WS yX5_takeNewName cX5_takeNewName 3 (some .long)) { frames := 3, cells := 0, slots := 0, locals := 68 } (PB2 [.ref qa900] sz G cy ev (va_pl Ls (cellOf cy K ln hp0))) (QBl (S := (Nat → Nat → Value)) (fun (r : Int64) (u : (Nat → Nat → Value)) => Ok K u ∧ Fr [6002, 6003, 6004, 6005, 6006] K hp0 u) G (fun u => va_pl Ls (cellOf cy K ln u)) (va_A (va_pl Ls (cellOf cy K ln hp0)) sz)) 0 0 (va_A (va_pl Ls (cellOf cy K ln hp0)) sz) := by
  refine met_of2 (y := yX5_takeNewName) (L := 3) (av := [.ref qa900]) (Qc := fun A => QBl (S := (Nat → Nat → Value)) (fun (r : Int64) (u : (Nat → Nat → Value)) => Ok K u ∧ Fr [6002, 6003, 6004, 6005, 6006] K hp0 u) G (fun u => va_pl Ls (cellOf cy K ln u)) A) (plainFor_of_name (by decide)) (Nat.le_of_ble_eq_true rfl) ?_
  intro p e s m below meth c hsz hx hb hr hml hown hT hlocks hin hK A hA hE hw hS ls hl
  have hw : PW G cy K ln Ls A hp0 s.heap := hw
  have hown : s.vm.findClass "LieClock$Parser" = some m.cls := hown
  have hl : lv_has ls 3 [(0, .ref qa900)] := hl
  obtain ⟨Q, hQ⟩ : ∃ Q : State → Prop, Q = MQ below (QBl (S := (Nat → Nat → Value)) (fun (r : Int64) (u : (Nat → Nat → Value)) => Ok K u ∧ Fr [6002, 6003, 6004, 6005, 6006] K hp0 u) G (fun u => va_pl Ls (cellOf cy K ln u)) A) ([.ref qa900] : List Value).toArray s 0 0 A := ⟨_, rfl⟩
  rw [← hQ]
  refine lv_aload_n hx hb dX5_takeNewName_0 rfl (lv_at hl 0 rfl) ?_
  refine lv_iconst (v := 2) hx hb dX5_takeNewName_1 (by decide) ?_
  refine kq_l hw hS hA (va_runV (As := [.int 2]) (rest := []) ⟨hx, hb, hml, hown, hT⟩ (cX5_take_0 l G cy ev K ln Ls hW _ hp0 ok0 qa900 2 kd900) (cwV 1 hT (good_V tb_862 tb_859 tb_861 tb_10 tb_109) rfl rfl rfl (by decide +kernel) ⟨Nat.le_of_ble_eq_true rfl, Nat.le_of_ble_eq_true rfl⟩) (pool_preV (ci := 5) hK hE hS hA hw hW kd900 (by decide) rfl) rfl rfl hl.1 rfl (lv_room (Nat.le_of_ble_eq_true rfl)) dX5_takeNewName_2 ⟨Nat.le_of_ble_eq_true rfl, Nat.le_of_ble_eq_true rfl⟩) (fun wl5 hp1 H locs hq4 hw hS => ?_)
  obtain ⟨ok2, F3⟩ := hq4
  have hw : PW G cy K ln Ls A hp1 H := hw
  refine lv_lstore_n (lv' := [(1, .long wl5), (0, .ref qa900)]) hx hb dX5_takeNewName_5 rfl hl (by decide) rfl (fun ls hl => ?_)
  refine lv_aload_n hx hb dX5_takeNewName_6 rfl (lv_at hl 1 rfl) ?_
  obtain ⟨qa7, eq6, kd8⟩ := rd_6001 ok2 kd900
  refine p_get (ci := 5) (v := .ref qa7) (C := RX5) (T := TX5) (N := 7) hx hb hT iw_X5 hown hK hw hW kd900 (by decide) rfl rfl 1 (by decide) eq6 (hT _ tb_372) (fun _ h9 => h9) dX5_takeNewName_7 ?_
  refine lv_lload_n hx hb dX5_takeNewName_10 rfl (lv_at hl 0 rfl) ?_
  refine kq_i hw hS hA (va_runV (As := [.long wl5]) (rest := []) ⟨hx, hb, hml, hown, hT⟩ (cX10_isTold_0 l G cy ev K ln Ls hW _ hp1 ok2 qa7 wl5 kd8) (cwV 1 hT (good_V tb_866 tb_863 tb_864 tb_865 tb_107) rfl rfl rfl (by decide +kernel) ⟨Nat.le_of_ble_eq_true rfl, Nat.le_of_ble_eq_true rfl⟩) (pool_preV (ci := 10) hK hE hS hA hw hW kd8 (by decide) rfl) rfl rfl hl.1 rfl (lv_room (Nat.le_of_ble_eq_true rfl)) dX5_takeNewName_11 ⟨Nat.le_of_ble_eq_true rfl, Nat.le_of_ble_eq_true rfl⟩) (fun zi13 hp9 H locs hq12 hw hS => ?_)
  obtain ⟨ok10, F11, bd14⟩ := hq12
  obtain rfl : hp1 = hp9 := (Fr.nil F11).symm
  have hw : PW G cy K ln Ls A hp1 H := hw
  have jn26 : ∀ (hp23 : Nat → Nat → Value)  (H : Heap) (locs : List Loc) (ls : Array Slot), Ok K hp23 → Fr [6005, 6006] K hp1 hp23 → lv_has ls 3 [(1, .long wl5)] → PW G cy K ln Ls A hp23 H → va_S A s.heap H locs → W p l e ({ frames := 3, cells := 0, slots := 0, locals := 68 } : Room) s m ([.ref qa900] : List Value).toArray below meth c H locs 0 0 Q (F0 m 22 ls []) := by
    intro hp23 H locs ls ok25 F24 hl hw hS
    refine lv_lload_n hx hb dX5_takeNewName_22 rfl (lv_at hl 0 rfl) ?_
    rw [hQ]
    exact kz_l hx hb hr hlocks hS hp23 hw ⟨ok25, (Fr.tr (Fr.tr (Fr.rf) F3 (by decide)) F24 (by decide))⟩ (Nat.le_of_ble_eq_true rfl) (Nat.le_of_ble_eq_true rfl) dX5_takeNewName_23
  refine lv_if_eq (tgt := 22) hx hb dX5_takeNewName_14 (by decide) (fun cn15 => ?_) (fun cn15 => ?_)
  · skip
    have bd27 : (0 : Int) ≤ zi13.toInt ∧ zi13.toInt ≤ 0 := r_eq_x cn15 bd14 bc_0 (by decide) (by decide)
    exact jn26 hp1 _ _ ls ok2 (Fr.rf) (lv_sub hl [0] rfl) hw hS
  · skip
    have bd28 : (1 : Int) ≤ zi13.toInt ∧ zi13.toInt ≤ 1 := r_ne_lo cn15 bd14 (toi bc_0) (by decide) (by decide)
    refine lv_aload_n hx hb dX5_takeNewName_17 rfl (lv_at hl 1 rfl) ?_
    refine lv_iconst (v := 3) hx hb dX5_takeNewName_18 (by decide) ?_
    refine kq_v hw hS hA (va_runV (As := [.int 3]) (rest := []) ⟨hx, hb, hml, hown, hT⟩ (cX5_failSoftly_0 l G cy ev K ln Ls hW _ hp1 ok2 qa900 3 kd900) (cwV 1 hT (good_V tb_881 tb_878 tb_880 tb_11 tb_109) rfl rfl rfl (by decide +kernel) ⟨Nat.le_of_ble_eq_true rfl, Nat.le_of_ble_eq_true rfl⟩) (pool_preV (ci := 5) hK hE hS hA hw hW kd900 (by decide) rfl) rfl rfl hl.1 rfl (lv_room (Nat.le_of_ble_eq_true rfl)) dX5_takeNewName_19 ⟨Nat.le_of_ble_eq_true rfl, Nat.le_of_ble_eq_true rfl⟩) (fun hp29 H locs hq32 hw hS => ?_)
    obtain ⟨ok30, F31⟩ := hq32
    have hw : PW G cy K ln Ls A hp29 H := hw
    exact jn26 hp29 _ _ ls ok30 (Fr.tr (Fr.rf) F31 (by decide)) (lv_sub hl [0] rfl) hw hS

set_option maxRecDepth 100000 in
set_option maxHeartbeats 4000000 in
theorem cX5_expect_0 (l : Launch) (G : va_G) (cy : Nat → ClassId) (ev : Ew) (K ln : Nat → Nat) (Ls : List Nat) (hW : SW K ln Ls) (sz : Nat) (hp0 : Nat → Nat → Value) (ok0 : Ok K hp0) (qa900 : Nat) (zi901 : Int32) (kd900 : K qa900 = 6) : Met l yX5_expect (WS yX5_expect cX5_expect 2 none) { frames := 1, cells := 0, slots := 0, locals := 21 } (PB2 [.ref qa900, .int zi901] sz G cy ev (va_pl Ls (cellOf cy K ln hp0))) (QBv (S := (Nat → Nat → Value)) (fun u : (Nat → Nat → Value) => Ok K u ∧ Fr [6002, 6003, 6004] K hp0 u) G (fun u => va_pl Ls (cellOf cy K ln u)) (va_A (va_pl Ls (cellOf cy K ln hp0)) sz)) 0 0 (va_A (va_pl Ls (cellOf cy K ln hp0)) sz) := by
  refine met_of2 (y := yX5_expect) (L := 2) (av := [.ref qa900, .int zi901]) (Qc := fun A => QBv (S := (Nat → Nat → Value)) (fun u : (Nat → Nat → Value) => Ok K u ∧ Fr [6002, 6003, 6004] K hp0 u) G (fun u => va_pl Ls (cellOf cy K ln u)) A) (plainFor_of_name (by decide)) (Nat.le_of_ble_eq_true rfl) ?_
  intro p e s m below meth c hsz hx hb hr hml hown hT hlocks hin hK A hA hE hw hS ls hl
  have hw : PW G cy K ln Ls A hp0 s.heap := hw
  have hown : s.vm.findClass "LieClock$Parser" = some m.cls := hown
  have hl : lv_has ls 2 [(0, .ref qa900), (1, .int zi901)] := hl
  obtain ⟨Q, hQ⟩ : ∃ Q : State → Prop, Q = MQ below (QBv (S := (Nat → Nat → Value)) (fun u : (Nat → Nat → Value) => Ok K u ∧ Fr [6002, 6003, 6004] K hp0 u) G (fun u => va_pl Ls (cellOf cy K ln u)) A) ([.ref qa900, .int zi901] : List Value).toArray s 0 0 A := ⟨_, rfl⟩
  rw [← hQ]
  refine lv_aload_n hx hb dX5_expect_0 rfl (lv_at hl 0 rfl) ?_
  refine lv_iload_n hx hb dX5_expect_1 rfl (lv_at hl 1 rfl) ?_
  refine kq_i hw hS hA (va_runV (As := [.int zi901]) (rest := []) ⟨hx, hb, hml, hown, hT⟩ (cX5_accept_0 l G cy ev K ln Ls hW _ hp0 ok0 qa900 zi901 kd900) (cwV 1 hT (good_V tb_854 tb_851 tb_853 tb_8 tb_109) rfl rfl rfl (by decide +kernel) ⟨Nat.le_of_ble_eq_true rfl, Nat.le_of_ble_eq_true rfl⟩) (pool_preV (ci := 5) hK hE hS hA hw hW kd900 (by decide) rfl) rfl rfl hl.1 rfl (lv_room (Nat.le_of_ble_eq_true rfl)) dX5_expect_2 ⟨Nat.le_of_ble_eq_true rfl, Nat.le_of_ble_eq_true rfl⟩) (fun zi5 hp1 H locs hq4 hw hS => ?_)
  obtain ⟨ok2, F3, bd6, hc7, hc8⟩ := hq4
  have hw : PW G cy K ln Ls A hp1 H := hw
  rcases b01 bd6 with cn9 | cn9
  · skip
    subst cn9
    refine lv_if_ne (tgt := 13) hx hb dX5_expect_5 (by decide) (fun c => absurd (d_eq bc_0 bc_0) c) (fun _ => ?_)
    refine lv_aload_n hx hb dX5_expect_8 rfl (lv_at hl 0 rfl) ?_
    refine lv_iconst (v := 1) hx hb dX5_expect_9 (by decide) ?_
    refine kq_v hw hS hA (va_runV (As := [.int 1]) (rest := []) ⟨hx, hb, hml, hown, hT⟩ (cX5_fail_0 l G cy ev K ln Ls hW _ hp1 ok2 qa900 1 kd900 (b_wid2 bc_1 (by decide) (by decide))) (cwV 1 hT (good_V tb_850 tb_847 tb_849 tb_7 tb_109) rfl rfl rfl (by decide +kernel) ⟨Nat.le_of_ble_eq_true rfl, Nat.le_of_ble_eq_true rfl⟩) (pool_preV (ci := 5) hK hE hS hA hw hW kd900 (by decide) rfl) rfl rfl hl.1 rfl (lv_room (Nat.le_of_ble_eq_true rfl)) dX5_expect_10 ⟨Nat.le_of_ble_eq_true rfl, Nat.le_of_ble_eq_true rfl⟩) (fun hp10 H locs hq13 hw hS => ?_)
    obtain ⟨ok11, F12, ⟨zi15, eq16, bd17⟩⟩ := hq13
    have hw : PW G cy K ln Ls A hp10 H := hw
    rw [hQ]
    exact kz_v hx hb hr hlocks hS hp10 hw ⟨ok11, (Fr.tr (Fr.tr (Fr.rf) F3 (by decide)) F12 (by decide))⟩ (Nat.le_of_ble_eq_true rfl) (Nat.le_of_ble_eq_true rfl) dX5_expect_13
  · skip
    subst cn9
    obtain ⟨zi18, eq19, bd20⟩ := hc7 rfl
    obtain ⟨zi21, eq22, bd23⟩ := hc8 rfl
    refine lv_if_ne (tgt := 13) hx hb dX5_expect_5 (by decide) (fun _ => ?_) (fun c => absurd c (d_ne bc_1 bc_0 (by decide)))
    rw [hQ]
    exact kz_v hx hb hr hlocks hS hp1 hw ⟨ok2, (Fr.tr (Fr.rf) F3 (by decide))⟩ (Nat.le_of_ble_eq_true rfl) (Nat.le_of_ble_eq_true rfl) dX5_expect_13

set_option maxRecDepth 100000 in
set_option maxHeartbeats 4000000 in
theorem cX5_tellFact_0 (l : Launch) (G : va_G) (cy : Nat → ClassId) (ev : Ew) (K ln : Nat → Nat) (Ls : List Nat) (hW : SW K ln Ls) (sz : Nat) (hp0 : Nat → Nat → Value) (ok0 : Ok K hp0) (qa900 : Nat) (kd900 : K qa900 = 6) : Met l yX5_tellFact (WS yX5_tellFact cX5_tellFact 5 none) { frames := 4, cells := 0, slots := 0, locals := 90 } (PB2 [.ref qa900] sz G cy ev (va_pl Ls (cellOf cy K ln hp0))) (QBv (S := (Nat → Nat → Value)) (fun u : (Nat → Nat → Value) => Ok K u ∧ Fr [6002, 6003, 6004, 6005, 6006, 11000, 11001, 11002, 48000] K hp0 u) G (fun u => va_pl Ls (cellOf cy K ln u)) (va_A (va_pl Ls (cellOf cy K ln hp0)) sz)) 0 0 (va_A (va_pl Ls (cellOf cy K ln hp0)) sz) := by
  refine met_of2 (y := yX5_tellFact) (L := 5) (av := [.ref qa900]) (Qc := fun A => QBv (S := (Nat → Nat → Value)) (fun u : (Nat → Nat → Value) => Ok K u ∧ Fr [6002, 6003, 6004, 6005, 6006, 11000, 11001, 11002, 48000] K hp0 u) G (fun u => va_pl Ls (cellOf cy K ln u)) A) (plainFor_of_name (by decide)) (Nat.le_of_ble_eq_true rfl) ?_
  intro p e s m below meth c hsz hx hb hr hml hown hT hlocks hin hK A hA hE hw hS ls hl
  have hw : PW G cy K ln Ls A hp0 s.heap := hw
  have hown : s.vm.findClass "LieClock$Parser" = some m.cls := hown
  have hl : lv_has ls 5 [(0, .ref qa900)] := hl
  obtain ⟨Q, hQ⟩ : ∃ Q : State → Prop, Q = MQ below (QBv (S := (Nat → Nat → Value)) (fun u : (Nat → Nat → Value) => Ok K u ∧ Fr [6002, 6003, 6004, 6005, 6006, 11000, 11001, 11002, 48000] K hp0 u) G (fun u => va_pl Ls (cellOf cy K ln u)) A) ([.ref qa900] : List Value).toArray s 0 0 A := ⟨_, rfl⟩
  rw [← hQ]
  refine lv_aload_n hx hb dX5_tellFact_0 rfl (lv_at hl 0 rfl) ?_
  refine lv_aload_n hx hb dX5_tellFact_1 rfl (lv_at hl 0 rfl) ?_
  obtain ⟨qa2, eq1, kd3⟩ := rd_6001 ok0 kd900
  refine p_get (ci := 5) (v := .ref qa2) (C := RX5) (T := TX5) (N := 7) hx hb hT iw_X5 hown hK hw hW kd900 (by decide) rfl rfl 1 (by decide) eq1 (hT _ tb_372) (fun _ h9 => h9) dX5_tellFact_2 ?_
  obtain ⟨zi5, eq4, bd6⟩ := rd_11000 ok0 kd3
  refine p_getN (ci := 10) (v := .int zi5) (C := RX10) (T := TX10) (N := 20) hx hb hT iw_X10 hown hK hw hW kd3 (by decide) rfl rfl 0 (by decide) eq4 (hK.fl nw_83) (fun _ h9 => h9) dX5_tellFact_5 ?_
  refine lv_bipush (v := 6) hx hb dX5_tellFact_8 (by decide) ?_
  refine kq_v hw hS hA (va_runV (As := [.int zi5, .int 6]) (rest := []) ⟨hx, hb, hml, hown, hT⟩ (cX5_begin_0 l G cy ev K ln Ls hW _ hp0 ok0 qa900 zi5 6 kd900) (cwV 2 hT (good_V tb_846 tb_843 tb_845 tb_6 tb_109) rfl rfl rfl (by decide +kernel) ⟨Nat.le_of_ble_eq_true rfl, Nat.le_of_ble_eq_true rfl⟩) (pool_preV (ci := 5) hK hE hS hA hw hW kd900 (by decide) rfl) rfl rfl hl.1 rfl (lv_room (Nat.le_of_ble_eq_true rfl)) dX5_tellFact_10 ⟨Nat.le_of_ble_eq_true rfl, Nat.le_of_ble_eq_true rfl⟩) (fun hp7 H locs hq10 hw hS => ?_)
  obtain ⟨ok8, F9⟩ := hq10
  have hw : PW G cy K ln Ls A hp7 H := hw
  refine lv_aload_n hx hb dX5_tellFact_13 rfl (lv_at hl 0 rfl) ?_
  refine kq_l hw hS hA (va_runV (As := []) (rest := []) ⟨hx, hb, hml, hown, hT⟩ (cX5_takeNewName_0 l G cy ev K ln Ls hW _ hp7 ok8 qa900 kd900) (cwV 0 hT (good_V tb_858 tb_855 tb_857 tb_9 tb_109) rfl rfl rfl (by decide +kernel) ⟨Nat.le_of_ble_eq_true rfl, Nat.le_of_ble_eq_true rfl⟩) (pool_preV (ci := 5) hK hE hS hA hw hW kd900 (by decide) rfl) rfl rfl hl.1 rfl (lv_room (Nat.le_of_ble_eq_true rfl)) dX5_tellFact_14 ⟨Nat.le_of_ble_eq_true rfl, Nat.le_of_ble_eq_true rfl⟩) (fun wl16 hp12 H locs hq15 hw hS => ?_)
  obtain ⟨ok13, F14⟩ := hq15
  have hw : PW G cy K ln Ls A hp12 H := hw
  refine lv_lstore_n (lv' := [(1, .long wl16), (0, .ref qa900)]) hx hb dX5_tellFact_17 rfl hl (by decide) rfl (fun ls hl => ?_)
  refine lv_aload_n hx hb dX5_tellFact_18 rfl (lv_at hl 1 rfl) ?_
  refine lv_bipush (v := 101) hx hb dX5_tellFact_19 (by decide) ?_
  refine kq_i hw hS hA (va_runV (As := [.int 101]) (rest := []) ⟨hx, hb, hml, hown, hT⟩ (cX5_accept_0 l G cy ev K ln Ls hW _ hp12 ok13 qa900 101 kd900) (cwV 1 hT (good_V tb_854 tb_851 tb_853 tb_8 tb_109) rfl rfl rfl (by decide +kernel) ⟨Nat.le_of_ble_eq_true rfl, Nat.le_of_ble_eq_true rfl⟩) (pool_preV (ci := 5) hK hE hS hA hw hW kd900 (by decide) rfl) rfl rfl hl.1 rfl (lv_room (Nat.le_of_ble_eq_true rfl)) dX5_tellFact_21 ⟨Nat.le_of_ble_eq_true rfl, Nat.le_of_ble_eq_true rfl⟩) (fun zi21 hp17 H locs hq20 hw hS => ?_)
  obtain ⟨ok18, F19, bd22, hc23, hc24⟩ := hq20
  have hw : PW G cy K ln Ls A hp17 H := hw
  refine lv_istore_n (lv' := [(3, .int zi21), (1, .long wl16), (0, .ref qa900)]) hx hb dX5_tellFact_24 rfl hl (by decide) rfl (fun ls hl => ?_)
  refine lv_iload_n hx hb dX5_tellFact_25 rfl (lv_at hl 0 rfl) ?_
  have jn36 : ∀ (hp33 : Nat → Nat → Value)  (H : Heap) (locs : List Loc) (ls : Array Slot), Ok K hp33 → Fr [6002, 6003, 6004] K hp17 hp33 → lv_has ls 5 [(0, .ref qa900), (1, .long wl16), (3, .int zi21)] → PW G cy K ln Ls A hp33 H → va_S A s.heap H locs → W p l e ({ frames := 4, cells := 0, slots := 0, locals := 90 } : Room) s m ([.ref qa900] : List Value).toArray below meth c H locs 0 0 Q (F0 m 35 ls []) := by
    intro hp33 H locs ls ok35 F34 hl hw hS
    refine lv_aload_n hx hb dX5_tellFact_35 rfl (lv_at hl 0 rfl) ?_
    refine lv_bipush (v := 103) hx hb dX5_tellFact_36 (by decide) ?_
    refine kq_i hw hS hA (va_runV (As := [.int 103]) (rest := []) ⟨hx, hb, hml, hown, hT⟩ (cX5_accept_0 l G cy ev K ln Ls hW _ hp33 ok35 qa900 103 kd900) (cwV 1 hT (good_V tb_854 tb_851 tb_853 tb_8 tb_109) rfl rfl rfl (by decide +kernel) ⟨Nat.le_of_ble_eq_true rfl, Nat.le_of_ble_eq_true rfl⟩) (pool_preV (ci := 5) hK hE hS hA hw hW kd900 (by decide) rfl) rfl rfl hl.1 rfl (lv_room (Nat.le_of_ble_eq_true rfl)) dX5_tellFact_38 ⟨Nat.le_of_ble_eq_true rfl, Nat.le_of_ble_eq_true rfl⟩) (fun zi41 hp37 H locs hq40 hw hS => ?_)
    obtain ⟨ok38, F39, bd42, hc43, hc44⟩ := hq40
    have hw : PW G cy K ln Ls A hp37 H := hw
    refine lv_istore (lv' := [(4, .int zi41), (0, .ref qa900), (1, .long wl16), (3, .int zi21)]) hx hb dX5_tellFact_41 hl (by decide) rfl (fun ls hl => ?_)
    refine lv_aload_n hx hb dX5_tellFact_43 rfl (lv_at hl 1 rfl) ?_
    refine lv_bipush (v := 59) hx hb dX5_tellFact_44 (by decide) ?_
    refine kq_v hw hS hA (va_runV (As := [.int 59]) (rest := []) ⟨hx, hb, hml, hown, hT⟩ (cX5_expect_0 l G cy ev K ln Ls hW _ hp37 ok38 qa900 59 kd900) (cwV 1 hT (good_V tb_889 tb_886 tb_888 tb_12 tb_109) rfl rfl rfl (by decide +kernel) ⟨Nat.le_of_ble_eq_true rfl, Nat.le_of_ble_eq_true rfl⟩) (pool_preV (ci := 5) hK hE hS hA hw hW kd900 (by decide) rfl) rfl rfl hl.1 rfl (lv_room (Nat.le_of_ble_eq_true rfl)) dX5_tellFact_46 ⟨Nat.le_of_ble_eq_true rfl, Nat.le_of_ble_eq_true rfl⟩) (fun hp45 H locs hq48 hw hS => ?_)
    obtain ⟨ok46, F47⟩ := hq48
    have hw : PW G cy K ln Ls A hp45 H := hw
    refine lv_aload_n hx hb dX5_tellFact_49 rfl (lv_at hl 1 rfl) ?_
    obtain ⟨zi51, eq50, bd52⟩ := rd_6004 ok46 kd900
    refine p_get (ci := 5) (v := .int zi51) (C := RX5) (T := TX5) (N := 7) hx hb hT iw_X5 hown hK hw hW kd900 (by decide) rfl rfl 4 (by decide) eq50 (hT _ tb_375) (fun _ h9 => h9) dX5_tellFact_50 ?_
    refine lv_if_ne (tgt := 67) hx hb dX5_tellFact_53 (by decide) (fun cn53 => ?_) (fun cn53 => ?_)
    · skip
      have bd54 : (1 : Int) ≤ zi51.toInt ∧ zi51.toInt ≤ 2 := r_ne_lo cn53 bd52 (toi bc_0) (by decide) (by decide)
      rw [hQ]
      exact kz_v hx hb hr hlocks hS hp45 hw ⟨ok46, (Fr.tr (Fr.tr (Fr.tr (Fr.tr (Fr.tr (Fr.tr (Fr.rf) F9 (by decide)) F14 (by decide)) F19 (by decide)) F34 (by decide)) F39 (by decide)) F47 (by decide))⟩ (Nat.le_of_ble_eq_true rfl) (Nat.le_of_ble_eq_true rfl) dX5_tellFact_67
    · skip
      have bd55 : (0 : Int) ≤ zi51.toInt ∧ zi51.toInt ≤ 0 := r_eq_x cn53 bd52 bc_0 (by decide) (by decide)
      refine lv_aload_n hx hb dX5_tellFact_56 rfl (lv_at hl 1 rfl) ?_
      have eq56 : hp45 qa900 1 = .ref qa2 := Eq.trans (Fr.at (cq := 6001) F47 kd900 (cd_o (by decide)) (by decide)) (Eq.trans (Fr.at (cq := 6001) F39 kd900 (cd_o (by decide)) (by decide)) (Eq.trans (Fr.at (cq := 6001) F34 kd900 (cd_o (by decide)) (by decide)) (Eq.trans (Fr.at (cq := 6001) F19 kd900 (cd_o (by decide)) (by decide)) (Eq.trans (Fr.at (cq := 6001) F14 kd900 (cd_o (by decide)) (by decide)) (Eq.trans (Fr.at (cq := 6001) F9 kd900 (cd_o (by decide)) (by decide)) eq1)))))
      refine p_get (ci := 5) (v := .ref qa2) (C := RX5) (T := TX5) (N := 7) hx hb hT iw_X5 hown hK hw hW kd900 (by decide) rfl rfl 1 (by decide) eq56 (hT _ tb_372) (fun _ h9 => h9) dX5_tellFact_57 ?_
      refine lv_lload_n hx hb dX5_tellFact_60 rfl (lv_at hl 2 rfl) ?_
      refine lv_iload_n hx hb dX5_tellFact_61 rfl (lv_at hl 3 rfl) ?_
      refine lv_iload hx hb dX5_tellFact_62 (lv_at hl 0 rfl) ?_
      refine kq_v hw hS hA (va_runV (As := [.long wl16, .int zi21, .int zi41]) (rest := []) ⟨hx, hb, hml, hown, hT⟩ (cX10_addFact_0 l G cy ev K ln Ls hW _ hp45 ok46 qa2 wl16 zi21 zi41 kd3 (b_wid2 bd22 (by decide) (by decide)) (b_wid2 bd42 (by decide) (by decide))) (cwV 3 hT (good_V tb_893 tb_890 tb_891 tb_892 tb_107) rfl rfl rfl (by decide +kernel) ⟨Nat.le_of_ble_eq_true rfl, Nat.le_of_ble_eq_true rfl⟩) (pool_preV (ci := 10) hK hE hS hA hw hW kd3 (by decide) rfl) rfl rfl hl.1 rfl (lv_room (Nat.le_of_ble_eq_true rfl)) dX5_tellFact_64 ⟨Nat.le_of_ble_eq_true rfl, Nat.le_of_ble_eq_true rfl⟩) (fun hp57 H locs hq60 hw hS => ?_)
      obtain ⟨ok58, F59⟩ := hq60
      have hw : PW G cy K ln Ls A hp57 H := hw
      rw [hQ]
      exact kz_v hx hb hr hlocks hS hp57 hw ⟨ok58, (Fr.tr (Fr.tr (Fr.tr (Fr.tr (Fr.tr (Fr.tr (Fr.tr (Fr.rf) F9 (by decide)) F14 (by decide)) F19 (by decide)) F34 (by decide)) F39 (by decide)) F47 (by decide)) F59 (by decide))⟩ (Nat.le_of_ble_eq_true rfl) (Nat.le_of_ble_eq_true rfl) dX5_tellFact_67
  refine lv_if_ne (tgt := 35) hx hb dX5_tellFact_26 (by decide) (fun cn25 => ?_) (fun cn25 => ?_)
  · skip
    have bd62 : (1 : Int) ≤ zi21.toInt ∧ zi21.toInt ≤ 1 := r_ne_lo cn25 bd22 (toi bc_0) (by decide) (by decide)
    exact jn36 hp17 _ _ ls ok18 (Fr.rf) (lv_sub hl [2, 1, 0] rfl) hw hS
  · skip
    have bd63 : (0 : Int) ≤ zi21.toInt ∧ zi21.toInt ≤ 0 := r_eq_x cn25 bd22 bc_0 (by decide) (by decide)
    refine lv_aload_n hx hb dX5_tellFact_29 rfl (lv_at hl 2 rfl) ?_
    refine lv_bipush (v := 102) hx hb dX5_tellFact_30 (by decide) ?_
    refine kq_v hw hS hA (va_runV (As := [.int 102]) (rest := []) ⟨hx, hb, hml, hown, hT⟩ (cX5_expect_0 l G cy ev K ln Ls hW _ hp17 ok18 qa900 102 kd900) (cwV 1 hT (good_V tb_889 tb_886 tb_888 tb_12 tb_109) rfl rfl rfl (by decide +kernel) ⟨Nat.le_of_ble_eq_true rfl, Nat.le_of_ble_eq_true rfl⟩) (pool_preV (ci := 5) hK hE hS hA hw hW kd900 (by decide) rfl) rfl rfl hl.1 rfl (lv_room (Nat.le_of_ble_eq_true rfl)) dX5_tellFact_32 ⟨Nat.le_of_ble_eq_true rfl, Nat.le_of_ble_eq_true rfl⟩) (fun hp64 H locs hq67 hw hS => ?_)
    obtain ⟨ok65, F66⟩ := hq67
    have hw : PW G cy K ln Ls A hp64 H := hw
    exact jn36 hp64 _ _ ls ok65 (Fr.tr (Fr.rf) F66 (by decide)) (lv_sub hl [2, 1, 0] rfl) hw hS

set_option maxRecDepth 100000 in
set_option maxHeartbeats 4000000 in
theorem cX5_tellWitness_0 (l : Launch) (G : va_G) (cy : Nat → ClassId) (ev : Ew) (K ln : Nat → Nat) (Ls : List Nat) (hW : SW K ln Ls) (sz : Nat) (hp0 : Nat → Nat → Value) (ok0 : Ok K hp0) (qa900 : Nat) (kd900 : K qa900 = 6) : Met l yX5_tellWitness (WS yX5_tellWitness cX5_tellWitness 3 none) { frames := 4, cells := 0, slots := 0, locals := 90 } (PB2 [.ref qa900] sz G cy ev (va_pl Ls (cellOf cy K ln hp0))) (QBv (S := (Nat → Nat → Value)) (fun u : (Nat → Nat → Value) => Ok K u ∧ Fr [6002, 6003, 6004, 6005, 6006, 11003, 49000, 50000] K hp0 u) G (fun u => va_pl Ls (cellOf cy K ln u)) (va_A (va_pl Ls (cellOf cy K ln hp0)) sz)) 0 0 (va_A (va_pl Ls (cellOf cy K ln hp0)) sz) := by
  refine met_of2 (y := yX5_tellWitness) (L := 3) (av := [.ref qa900]) (Qc := fun A => QBv (S := (Nat → Nat → Value)) (fun u : (Nat → Nat → Value) => Ok K u ∧ Fr [6002, 6003, 6004, 6005, 6006, 11003, 49000, 50000] K hp0 u) G (fun u => va_pl Ls (cellOf cy K ln u)) A) (plainFor_of_name (by decide)) (Nat.le_of_ble_eq_true rfl) ?_
  intro p e s m below meth c hsz hx hb hr hml hown hT hlocks hin hK A hA hE hw hS ls hl
  have hw : PW G cy K ln Ls A hp0 s.heap := hw
  have hown : s.vm.findClass "LieClock$Parser" = some m.cls := hown
  have hl : lv_has ls 3 [(0, .ref qa900)] := hl
  obtain ⟨Q, hQ⟩ : ∃ Q : State → Prop, Q = MQ below (QBv (S := (Nat → Nat → Value)) (fun u : (Nat → Nat → Value) => Ok K u ∧ Fr [6002, 6003, 6004, 6005, 6006, 11003, 49000, 50000] K hp0 u) G (fun u => va_pl Ls (cellOf cy K ln u)) A) ([.ref qa900] : List Value).toArray s 0 0 A := ⟨_, rfl⟩
  rw [← hQ]
  refine lv_aload_n hx hb dX5_tellWitness_0 rfl (lv_at hl 0 rfl) ?_
  refine lv_aload_n hx hb dX5_tellWitness_1 rfl (lv_at hl 0 rfl) ?_
  obtain ⟨qa2, eq1, kd3⟩ := rd_6001 ok0 kd900
  refine p_get (ci := 5) (v := .ref qa2) (C := RX5) (T := TX5) (N := 7) hx hb hT iw_X5 hown hK hw hW kd900 (by decide) rfl rfl 1 (by decide) eq1 (hT _ tb_372) (fun _ h9 => h9) dX5_tellWitness_2 ?_
  obtain ⟨zi5, eq4, bd6⟩ := rd_11003 ok0 kd3
  refine p_getN (ci := 10) (v := .int zi5) (C := RX10) (T := TX10) (N := 20) hx hb hT iw_X10 hown hK hw hW kd3 (by decide) rfl rfl 3 (by decide) eq4 (hK.fl nw_92) (fun _ h9 => h9) dX5_tellWitness_5 ?_
  refine lv_bipush (v := 6) hx hb dX5_tellWitness_8 (by decide) ?_
  refine kq_v hw hS hA (va_runV (As := [.int zi5, .int 6]) (rest := []) ⟨hx, hb, hml, hown, hT⟩ (cX5_begin_0 l G cy ev K ln Ls hW _ hp0 ok0 qa900 zi5 6 kd900) (cwV 2 hT (good_V tb_846 tb_843 tb_845 tb_6 tb_109) rfl rfl rfl (by decide +kernel) ⟨Nat.le_of_ble_eq_true rfl, Nat.le_of_ble_eq_true rfl⟩) (pool_preV (ci := 5) hK hE hS hA hw hW kd900 (by decide) rfl) rfl rfl hl.1 rfl (lv_room (Nat.le_of_ble_eq_true rfl)) dX5_tellWitness_10 ⟨Nat.le_of_ble_eq_true rfl, Nat.le_of_ble_eq_true rfl⟩) (fun hp7 H locs hq10 hw hS => ?_)
  obtain ⟨ok8, F9⟩ := hq10
  have hw : PW G cy K ln Ls A hp7 H := hw
  refine lv_aload_n hx hb dX5_tellWitness_13 rfl (lv_at hl 0 rfl) ?_
  refine kq_l hw hS hA (va_runV (As := []) (rest := []) ⟨hx, hb, hml, hown, hT⟩ (cX5_takeNewName_0 l G cy ev K ln Ls hW _ hp7 ok8 qa900 kd900) (cwV 0 hT (good_V tb_858 tb_855 tb_857 tb_9 tb_109) rfl rfl rfl (by decide +kernel) ⟨Nat.le_of_ble_eq_true rfl, Nat.le_of_ble_eq_true rfl⟩) (pool_preV (ci := 5) hK hE hS hA hw hW kd900 (by decide) rfl) rfl rfl hl.1 rfl (lv_room (Nat.le_of_ble_eq_true rfl)) dX5_tellWitness_14 ⟨Nat.le_of_ble_eq_true rfl, Nat.le_of_ble_eq_true rfl⟩) (fun wl16 hp12 H locs hq15 hw hS => ?_)
  obtain ⟨ok13, F14⟩ := hq15
  have hw : PW G cy K ln Ls A hp12 H := hw
  refine lv_lstore_n (lv' := [(1, .long wl16), (0, .ref qa900)]) hx hb dX5_tellWitness_17 rfl hl (by decide) rfl (fun ls hl => ?_)
  refine lv_aload_n hx hb dX5_tellWitness_18 rfl (lv_at hl 1 rfl) ?_
  refine lv_bipush (v := 59) hx hb dX5_tellWitness_19 (by decide) ?_
  refine kq_v hw hS hA (va_runV (As := [.int 59]) (rest := []) ⟨hx, hb, hml, hown, hT⟩ (cX5_expect_0 l G cy ev K ln Ls hW _ hp12 ok13 qa900 59 kd900) (cwV 1 hT (good_V tb_889 tb_886 tb_888 tb_12 tb_109) rfl rfl rfl (by decide +kernel) ⟨Nat.le_of_ble_eq_true rfl, Nat.le_of_ble_eq_true rfl⟩) (pool_preV (ci := 5) hK hE hS hA hw hW kd900 (by decide) rfl) rfl rfl hl.1 rfl (lv_room (Nat.le_of_ble_eq_true rfl)) dX5_tellWitness_21 ⟨Nat.le_of_ble_eq_true rfl, Nat.le_of_ble_eq_true rfl⟩) (fun hp17 H locs hq20 hw hS => ?_)
  obtain ⟨ok18, F19⟩ := hq20
  have hw : PW G cy K ln Ls A hp17 H := hw
  refine lv_aload_n hx hb dX5_tellWitness_24 rfl (lv_at hl 1 rfl) ?_
  obtain ⟨zi23, eq22, bd24⟩ := rd_6004 ok18 kd900
  refine p_get (ci := 5) (v := .int zi23) (C := RX5) (T := TX5) (N := 7) hx hb hT iw_X5 hown hK hw hW kd900 (by decide) rfl rfl 4 (by decide) eq22 (hT _ tb_375) (fun _ h9 => h9) dX5_tellWitness_25 ?_
  refine lv_if_ne (tgt := 39) hx hb dX5_tellWitness_28 (by decide) (fun cn25 => ?_) (fun cn25 => ?_)
  · skip
    have bd26 : (1 : Int) ≤ zi23.toInt ∧ zi23.toInt ≤ 2 := r_ne_lo cn25 bd24 (toi bc_0) (by decide) (by decide)
    rw [hQ]
    exact kz_v hx hb hr hlocks hS hp17 hw ⟨ok18, (Fr.tr (Fr.tr (Fr.tr (Fr.rf) F9 (by decide)) F14 (by decide)) F19 (by decide))⟩ (Nat.le_of_ble_eq_true rfl) (Nat.le_of_ble_eq_true rfl) dX5_tellWitness_39
  · skip
    have bd27 : (0 : Int) ≤ zi23.toInt ∧ zi23.toInt ≤ 0 := r_eq_x cn25 bd24 bc_0 (by decide) (by decide)
    refine lv_aload_n hx hb dX5_tellWitness_31 rfl (lv_at hl 1 rfl) ?_
    have eq28 : hp17 qa900 1 = .ref qa2 := Eq.trans (Fr.at (cq := 6001) F19 kd900 (cd_o (by decide)) (by decide)) (Eq.trans (Fr.at (cq := 6001) F14 kd900 (cd_o (by decide)) (by decide)) (Eq.trans (Fr.at (cq := 6001) F9 kd900 (cd_o (by decide)) (by decide)) eq1))
    refine p_get (ci := 5) (v := .ref qa2) (C := RX5) (T := TX5) (N := 7) hx hb hT iw_X5 hown hK hw hW kd900 (by decide) rfl rfl 1 (by decide) eq28 (hT _ tb_372) (fun _ h9 => h9) dX5_tellWitness_32 ?_
    refine lv_lload_n hx hb dX5_tellWitness_35 rfl (lv_at hl 0 rfl) ?_
    refine kq_v hw hS hA (va_runV (As := [.long wl16]) (rest := []) ⟨hx, hb, hml, hown, hT⟩ (cX10_addWitness_0 l G cy ev K ln Ls hW _ hp17 ok18 qa2 wl16 kd3) (cwV 1 hT (good_V tb_901 tb_898 tb_899 tb_900 tb_107) rfl rfl rfl (by decide +kernel) ⟨Nat.le_of_ble_eq_true rfl, Nat.le_of_ble_eq_true rfl⟩) (pool_preV (ci := 10) hK hE hS hA hw hW kd3 (by decide) rfl) rfl rfl hl.1 rfl (lv_room (Nat.le_of_ble_eq_true rfl)) dX5_tellWitness_36 ⟨Nat.le_of_ble_eq_true rfl, Nat.le_of_ble_eq_true rfl⟩) (fun hp29 H locs hq32 hw hS => ?_)
    obtain ⟨ok30, F31⟩ := hq32
    have hw : PW G cy K ln Ls A hp29 H := hw
    rw [hQ]
    exact kz_v hx hb hr hlocks hS hp29 hw ⟨ok30, (Fr.tr (Fr.tr (Fr.tr (Fr.tr (Fr.rf) F9 (by decide)) F14 (by decide)) F19 (by decide)) F31 (by decide))⟩ (Nat.le_of_ble_eq_true rfl) (Nat.le_of_ble_eq_true rfl) dX5_tellWitness_39

set_option maxRecDepth 100000 in
set_option maxHeartbeats 4000000 in
theorem cX5_enter_0 (l : Launch) (G : va_G) (cy : Nat → ClassId) (ev : Ew) (K ln : Nat → Nat) (Ls : List Nat) (hW : SW K ln Ls) (sz : Nat) (hp0 : Nat → Nat → Value) (ok0 : Ok K hp0) (qa900 : Nat) (zi901 : Int32) (kd900 : K qa900 = 6) (bd901 : ((0 : Int) ≤ zi901.toInt ∧ zi901.toInt ≤ 0)) : Met l yX5_enter (WS yX5_enter cX5_enter 2 (some .boolean)) { frames := 1, cells := 0, slots := 0, locals := 21 } (PB2 [.ref qa900, .int zi901] sz G cy ev (va_pl Ls (cellOf cy K ln hp0))) (QBi (S := (Nat → Nat → Value)) (fun (r : Int32) (u : (Nat → Nat → Value)) => Ok K u ∧ Fr [6002, 6003, 6004] K hp0 u ∧ ((0 : Int) ≤ r.toInt ∧ r.toInt ≤ 1) ∧ (r = 1 → ∃ z : Int32, u qa900 2 = .int z ∧ ((1 : Int) ≤ z.toInt ∧ z.toInt ≤ 400)) ∧ (r = 1 → ∃ z : Int32, u qa900 4 = .int z ∧ ((0 : Int) ≤ z.toInt ∧ z.toInt ≤ 0))) G (fun u => va_pl Ls (cellOf cy K ln u)) (va_A (va_pl Ls (cellOf cy K ln hp0)) sz)) 0 0 (va_A (va_pl Ls (cellOf cy K ln hp0)) sz) := by
  refine met_of2 (y := yX5_enter) (L := 2) (av := [.ref qa900, .int zi901]) (Qc := fun A => QBi (S := (Nat → Nat → Value)) (fun (r : Int32) (u : (Nat → Nat → Value)) => Ok K u ∧ Fr [6002, 6003, 6004] K hp0 u ∧ ((0 : Int) ≤ r.toInt ∧ r.toInt ≤ 1) ∧ (r = 1 → ∃ z : Int32, u qa900 2 = .int z ∧ ((1 : Int) ≤ z.toInt ∧ z.toInt ≤ 400)) ∧ (r = 1 → ∃ z : Int32, u qa900 4 = .int z ∧ ((0 : Int) ≤ z.toInt ∧ z.toInt ≤ 0))) G (fun u => va_pl Ls (cellOf cy K ln u)) A) (plainFor_of_name (by decide)) (Nat.le_of_ble_eq_true rfl) ?_
  intro p e s m below meth c hsz hx hb hr hml hown hT hlocks hin hK A hA hE hw hS ls hl
  have hw : PW G cy K ln Ls A hp0 s.heap := hw
  have hown : s.vm.findClass "LieClock$Parser" = some m.cls := hown
  have hl : lv_has ls 2 [(0, .ref qa900), (1, .int zi901)] := hl
  obtain ⟨Q, hQ⟩ : ∃ Q : State → Prop, Q = MQ below (QBi (S := (Nat → Nat → Value)) (fun (r : Int32) (u : (Nat → Nat → Value)) => Ok K u ∧ Fr [6002, 6003, 6004] K hp0 u ∧ ((0 : Int) ≤ r.toInt ∧ r.toInt ≤ 1) ∧ (r = 1 → ∃ z : Int32, u qa900 2 = .int z ∧ ((1 : Int) ≤ z.toInt ∧ z.toInt ≤ 400)) ∧ (r = 1 → ∃ z : Int32, u qa900 4 = .int z ∧ ((0 : Int) ≤ z.toInt ∧ z.toInt ≤ 0))) G (fun u => va_pl Ls (cellOf cy K ln u)) A) ([.ref qa900, .int zi901] : List Value).toArray s 0 0 A := ⟨_, rfl⟩
  rw [← hQ]
  refine lv_iload_n hx hb dX5_enter_0 rfl (lv_at hl 1 rfl) ?_
  refine lv_bipush (v := 6) hx hb dX5_enter_1 (by decide) ?_
  refine lv_icmp_lt (tgt := 11) hx hb dX5_enter_3 (by decide) (fun _ => ?_) (fun c => absurd (d_lt bd901 bc_6 (by decide)) c)
  refine lv_aload_n hx hb dX5_enter_11 rfl (lv_at hl 0 rfl) ?_
  refine lv_bipush (v := 40) hx hb dX5_enter_12 (by decide) ?_
  refine kq_i hw hS hA (va_runV (As := [.int 40]) (rest := []) ⟨hx, hb, hml, hown, hT⟩ (cX5_accept_0 l G cy ev K ln Ls hW _ hp0 ok0 qa900 40 kd900) (cwV 1 hT (good_V tb_854 tb_851 tb_853 tb_8 tb_109) rfl rfl rfl (by decide +kernel) ⟨Nat.le_of_ble_eq_true rfl, Nat.le_of_ble_eq_true rfl⟩) (pool_preV (ci := 5) hK hE hS hA hw hW kd900 (by decide) rfl) rfl rfl hl.1 rfl (lv_room (Nat.le_of_ble_eq_true rfl)) dX5_enter_14 ⟨Nat.le_of_ble_eq_true rfl, Nat.le_of_ble_eq_true rfl⟩) (fun zi5 hp1 H locs hq4 hw hS => ?_)
  obtain ⟨ok2, F3, bd6, hc7, hc8⟩ := hq4
  have hw : PW G cy K ln Ls A hp1 H := hw
  rcases b01 bd6 with cn9 | cn9
  · skip
    subst cn9
    rw [hQ]
    exact kz_i hx hb hr hlocks hS (nz_n bc_0 (by decide) (by decide)) hp1 hw ⟨ok2, (Fr.tr (Fr.rf) F3 (by decide)), (b_wid2 bc_0 (by decide) (by decide)), (fun h => absurd h (by decide)), (fun h => absurd h (by decide))⟩ (Nat.le_of_ble_eq_true rfl) (Nat.le_of_ble_eq_true rfl) dX5_enter_17
  · skip
    subst cn9
    obtain ⟨zi10, eq11, bd12⟩ := hc7 rfl
    obtain ⟨zi13, eq14, bd15⟩ := hc8 rfl
    rw [hQ]
    exact kz_i hx hb hr hlocks hS (nz_n bc_1 (by decide) (by decide)) hp1 hw ⟨ok2, (Fr.tr (Fr.rf) F3 (by decide)), (b_wid2 bc_1 (by decide) (by decide)), (fun _ => ⟨_, eq11, b_wid2 bd12 (by decide) (by decide)⟩), (fun _ => ⟨_, eq14, b_wid2 bd15 (by decide) (by decide)⟩)⟩ (Nat.le_of_ble_eq_true rfl) (Nat.le_of_ble_eq_true rfl) dX5_enter_17

set_option maxRecDepth 100000 in
set_option maxHeartbeats 4000000 in
theorem cX5_enter_1 (l : Launch) (G : va_G) (cy : Nat → ClassId) (ev : Ew) (K ln : Nat → Nat) (Ls : List Nat) (hW : SW K ln Ls) (sz : Nat) (hp0 : Nat → Nat → Value) (ok0 : Ok K hp0) (qa900 : Nat) (zi901 : Int32) (kd900 : K qa900 = 6) (bd901 : ((1 : Int) ≤ zi901.toInt ∧ zi901.toInt ≤ 1)) : Met l yX5_enter (WS yX5_enter cX5_enter 2 (some .boolean)) { frames := 1, cells := 0, slots := 0, locals := 21 } (PB2 [.ref qa900, .int zi901] sz G cy ev (va_pl Ls (cellOf cy K ln hp0))) (QBi (S := (Nat → Nat → Value)) (fun (r : Int32) (u : (Nat → Nat → Value)) => Ok K u ∧ Fr [6002, 6003, 6004] K hp0 u ∧ ((0 : Int) ≤ r.toInt ∧ r.toInt ≤ 1) ∧ (r = 1 → ∃ z : Int32, u qa900 2 = .int z ∧ ((1 : Int) ≤ z.toInt ∧ z.toInt ≤ 400)) ∧ (r = 1 → ∃ z : Int32, u qa900 4 = .int z ∧ ((0 : Int) ≤ z.toInt ∧ z.toInt ≤ 0))) G (fun u => va_pl Ls (cellOf cy K ln u)) (va_A (va_pl Ls (cellOf cy K ln hp0)) sz)) 0 0 (va_A (va_pl Ls (cellOf cy K ln hp0)) sz) := by
  refine met_of2 (y := yX5_enter) (L := 2) (av := [.ref qa900, .int zi901]) (Qc := fun A => QBi (S := (Nat → Nat → Value)) (fun (r : Int32) (u : (Nat → Nat → Value)) => Ok K u ∧ Fr [6002, 6003, 6004] K hp0 u ∧ ((0 : Int) ≤ r.toInt ∧ r.toInt ≤ 1) ∧ (r = 1 → ∃ z : Int32, u qa900 2 = .int z ∧ ((1 : Int) ≤ z.toInt ∧ z.toInt ≤ 400)) ∧ (r = 1 → ∃ z : Int32, u qa900 4 = .int z ∧ ((0 : Int) ≤ z.toInt ∧ z.toInt ≤ 0))) G (fun u => va_pl Ls (cellOf cy K ln u)) A) (plainFor_of_name (by decide)) (Nat.le_of_ble_eq_true rfl) ?_
  intro p e s m below meth c hsz hx hb hr hml hown hT hlocks hin hK A hA hE hw hS ls hl
  have hw : PW G cy K ln Ls A hp0 s.heap := hw
  have hown : s.vm.findClass "LieClock$Parser" = some m.cls := hown
  have hl : lv_has ls 2 [(0, .ref qa900), (1, .int zi901)] := hl
  obtain ⟨Q, hQ⟩ : ∃ Q : State → Prop, Q = MQ below (QBi (S := (Nat → Nat → Value)) (fun (r : Int32) (u : (Nat → Nat → Value)) => Ok K u ∧ Fr [6002, 6003, 6004] K hp0 u ∧ ((0 : Int) ≤ r.toInt ∧ r.toInt ≤ 1) ∧ (r = 1 → ∃ z : Int32, u qa900 2 = .int z ∧ ((1 : Int) ≤ z.toInt ∧ z.toInt ≤ 400)) ∧ (r = 1 → ∃ z : Int32, u qa900 4 = .int z ∧ ((0 : Int) ≤ z.toInt ∧ z.toInt ≤ 0))) G (fun u => va_pl Ls (cellOf cy K ln u)) A) ([.ref qa900, .int zi901] : List Value).toArray s 0 0 A := ⟨_, rfl⟩
  rw [← hQ]
  refine lv_iload_n hx hb dX5_enter_0 rfl (lv_at hl 1 rfl) ?_
  refine lv_bipush (v := 6) hx hb dX5_enter_1 (by decide) ?_
  refine lv_icmp_lt (tgt := 11) hx hb dX5_enter_3 (by decide) (fun _ => ?_) (fun c => absurd (d_lt bd901 bc_6 (by decide)) c)
  refine lv_aload_n hx hb dX5_enter_11 rfl (lv_at hl 0 rfl) ?_
  refine lv_bipush (v := 40) hx hb dX5_enter_12 (by decide) ?_
  refine kq_i hw hS hA (va_runV (As := [.int 40]) (rest := []) ⟨hx, hb, hml, hown, hT⟩ (cX5_accept_0 l G cy ev K ln Ls hW _ hp0 ok0 qa900 40 kd900) (cwV 1 hT (good_V tb_854 tb_851 tb_853 tb_8 tb_109) rfl rfl rfl (by decide +kernel) ⟨Nat.le_of_ble_eq_true rfl, Nat.le_of_ble_eq_true rfl⟩) (pool_preV (ci := 5) hK hE hS hA hw hW kd900 (by decide) rfl) rfl rfl hl.1 rfl (lv_room (Nat.le_of_ble_eq_true rfl)) dX5_enter_14 ⟨Nat.le_of_ble_eq_true rfl, Nat.le_of_ble_eq_true rfl⟩) (fun zi5 hp1 H locs hq4 hw hS => ?_)
  obtain ⟨ok2, F3, bd6, hc7, hc8⟩ := hq4
  have hw : PW G cy K ln Ls A hp1 H := hw
  rcases b01 bd6 with cn9 | cn9
  · skip
    subst cn9
    rw [hQ]
    exact kz_i hx hb hr hlocks hS (nz_n bc_0 (by decide) (by decide)) hp1 hw ⟨ok2, (Fr.tr (Fr.rf) F3 (by decide)), (b_wid2 bc_0 (by decide) (by decide)), (fun h => absurd h (by decide)), (fun h => absurd h (by decide))⟩ (Nat.le_of_ble_eq_true rfl) (Nat.le_of_ble_eq_true rfl) dX5_enter_17
  · skip
    subst cn9
    obtain ⟨zi10, eq11, bd12⟩ := hc7 rfl
    obtain ⟨zi13, eq14, bd15⟩ := hc8 rfl
    rw [hQ]
    exact kz_i hx hb hr hlocks hS (nz_n bc_1 (by decide) (by decide)) hp1 hw ⟨ok2, (Fr.tr (Fr.rf) F3 (by decide)), (b_wid2 bc_1 (by decide) (by decide)), (fun _ => ⟨_, eq11, b_wid2 bd12 (by decide) (by decide)⟩), (fun _ => ⟨_, eq14, b_wid2 bd15 (by decide) (by decide)⟩)⟩ (Nat.le_of_ble_eq_true rfl) (Nat.le_of_ble_eq_true rfl) dX5_enter_17

set_option maxRecDepth 100000 in
set_option maxHeartbeats 4000000 in
theorem cX5_enter_2 (l : Launch) (G : va_G) (cy : Nat → ClassId) (ev : Ew) (K ln : Nat → Nat) (Ls : List Nat) (hW : SW K ln Ls) (sz : Nat) (hp0 : Nat → Nat → Value) (ok0 : Ok K hp0) (qa900 : Nat) (zi901 : Int32) (kd900 : K qa900 = 6) (bd901 : ((2 : Int) ≤ zi901.toInt ∧ zi901.toInt ≤ 2)) : Met l yX5_enter (WS yX5_enter cX5_enter 2 (some .boolean)) { frames := 1, cells := 0, slots := 0, locals := 21 } (PB2 [.ref qa900, .int zi901] sz G cy ev (va_pl Ls (cellOf cy K ln hp0))) (QBi (S := (Nat → Nat → Value)) (fun (r : Int32) (u : (Nat → Nat → Value)) => Ok K u ∧ Fr [6002, 6003, 6004] K hp0 u ∧ ((0 : Int) ≤ r.toInt ∧ r.toInt ≤ 1) ∧ (r = 1 → ∃ z : Int32, u qa900 2 = .int z ∧ ((1 : Int) ≤ z.toInt ∧ z.toInt ≤ 400)) ∧ (r = 1 → ∃ z : Int32, u qa900 4 = .int z ∧ ((0 : Int) ≤ z.toInt ∧ z.toInt ≤ 0))) G (fun u => va_pl Ls (cellOf cy K ln u)) (va_A (va_pl Ls (cellOf cy K ln hp0)) sz)) 0 0 (va_A (va_pl Ls (cellOf cy K ln hp0)) sz) := by
  refine met_of2 (y := yX5_enter) (L := 2) (av := [.ref qa900, .int zi901]) (Qc := fun A => QBi (S := (Nat → Nat → Value)) (fun (r : Int32) (u : (Nat → Nat → Value)) => Ok K u ∧ Fr [6002, 6003, 6004] K hp0 u ∧ ((0 : Int) ≤ r.toInt ∧ r.toInt ≤ 1) ∧ (r = 1 → ∃ z : Int32, u qa900 2 = .int z ∧ ((1 : Int) ≤ z.toInt ∧ z.toInt ≤ 400)) ∧ (r = 1 → ∃ z : Int32, u qa900 4 = .int z ∧ ((0 : Int) ≤ z.toInt ∧ z.toInt ≤ 0))) G (fun u => va_pl Ls (cellOf cy K ln u)) A) (plainFor_of_name (by decide)) (Nat.le_of_ble_eq_true rfl) ?_
  intro p e s m below meth c hsz hx hb hr hml hown hT hlocks hin hK A hA hE hw hS ls hl
  have hw : PW G cy K ln Ls A hp0 s.heap := hw
  have hown : s.vm.findClass "LieClock$Parser" = some m.cls := hown
  have hl : lv_has ls 2 [(0, .ref qa900), (1, .int zi901)] := hl
  obtain ⟨Q, hQ⟩ : ∃ Q : State → Prop, Q = MQ below (QBi (S := (Nat → Nat → Value)) (fun (r : Int32) (u : (Nat → Nat → Value)) => Ok K u ∧ Fr [6002, 6003, 6004] K hp0 u ∧ ((0 : Int) ≤ r.toInt ∧ r.toInt ≤ 1) ∧ (r = 1 → ∃ z : Int32, u qa900 2 = .int z ∧ ((1 : Int) ≤ z.toInt ∧ z.toInt ≤ 400)) ∧ (r = 1 → ∃ z : Int32, u qa900 4 = .int z ∧ ((0 : Int) ≤ z.toInt ∧ z.toInt ≤ 0))) G (fun u => va_pl Ls (cellOf cy K ln u)) A) ([.ref qa900, .int zi901] : List Value).toArray s 0 0 A := ⟨_, rfl⟩
  rw [← hQ]
  refine lv_iload_n hx hb dX5_enter_0 rfl (lv_at hl 1 rfl) ?_
  refine lv_bipush (v := 6) hx hb dX5_enter_1 (by decide) ?_
  refine lv_icmp_lt (tgt := 11) hx hb dX5_enter_3 (by decide) (fun _ => ?_) (fun c => absurd (d_lt bd901 bc_6 (by decide)) c)
  refine lv_aload_n hx hb dX5_enter_11 rfl (lv_at hl 0 rfl) ?_
  refine lv_bipush (v := 40) hx hb dX5_enter_12 (by decide) ?_
  refine kq_i hw hS hA (va_runV (As := [.int 40]) (rest := []) ⟨hx, hb, hml, hown, hT⟩ (cX5_accept_0 l G cy ev K ln Ls hW _ hp0 ok0 qa900 40 kd900) (cwV 1 hT (good_V tb_854 tb_851 tb_853 tb_8 tb_109) rfl rfl rfl (by decide +kernel) ⟨Nat.le_of_ble_eq_true rfl, Nat.le_of_ble_eq_true rfl⟩) (pool_preV (ci := 5) hK hE hS hA hw hW kd900 (by decide) rfl) rfl rfl hl.1 rfl (lv_room (Nat.le_of_ble_eq_true rfl)) dX5_enter_14 ⟨Nat.le_of_ble_eq_true rfl, Nat.le_of_ble_eq_true rfl⟩) (fun zi5 hp1 H locs hq4 hw hS => ?_)
  obtain ⟨ok2, F3, bd6, hc7, hc8⟩ := hq4
  have hw : PW G cy K ln Ls A hp1 H := hw
  rcases b01 bd6 with cn9 | cn9
  · skip
    subst cn9
    rw [hQ]
    exact kz_i hx hb hr hlocks hS (nz_n bc_0 (by decide) (by decide)) hp1 hw ⟨ok2, (Fr.tr (Fr.rf) F3 (by decide)), (b_wid2 bc_0 (by decide) (by decide)), (fun h => absurd h (by decide)), (fun h => absurd h (by decide))⟩ (Nat.le_of_ble_eq_true rfl) (Nat.le_of_ble_eq_true rfl) dX5_enter_17
  · skip
    subst cn9
    obtain ⟨zi10, eq11, bd12⟩ := hc7 rfl
    obtain ⟨zi13, eq14, bd15⟩ := hc8 rfl
    rw [hQ]
    exact kz_i hx hb hr hlocks hS (nz_n bc_1 (by decide) (by decide)) hp1 hw ⟨ok2, (Fr.tr (Fr.rf) F3 (by decide)), (b_wid2 bc_1 (by decide) (by decide)), (fun _ => ⟨_, eq11, b_wid2 bd12 (by decide) (by decide)⟩), (fun _ => ⟨_, eq14, b_wid2 bd15 (by decide) (by decide)⟩)⟩ (Nat.le_of_ble_eq_true rfl) (Nat.le_of_ble_eq_true rfl) dX5_enter_17

set_option maxRecDepth 100000 in
set_option maxHeartbeats 4000000 in
theorem cX5_enter_3 (l : Launch) (G : va_G) (cy : Nat → ClassId) (ev : Ew) (K ln : Nat → Nat) (Ls : List Nat) (hW : SW K ln Ls) (sz : Nat) (hp0 : Nat → Nat → Value) (ok0 : Ok K hp0) (qa900 : Nat) (zi901 : Int32) (kd900 : K qa900 = 6) (bd901 : ((3 : Int) ≤ zi901.toInt ∧ zi901.toInt ≤ 3)) : Met l yX5_enter (WS yX5_enter cX5_enter 2 (some .boolean)) { frames := 1, cells := 0, slots := 0, locals := 21 } (PB2 [.ref qa900, .int zi901] sz G cy ev (va_pl Ls (cellOf cy K ln hp0))) (QBi (S := (Nat → Nat → Value)) (fun (r : Int32) (u : (Nat → Nat → Value)) => Ok K u ∧ Fr [6002, 6003, 6004] K hp0 u ∧ ((0 : Int) ≤ r.toInt ∧ r.toInt ≤ 1) ∧ (r = 1 → ∃ z : Int32, u qa900 2 = .int z ∧ ((1 : Int) ≤ z.toInt ∧ z.toInt ≤ 400)) ∧ (r = 1 → ∃ z : Int32, u qa900 4 = .int z ∧ ((0 : Int) ≤ z.toInt ∧ z.toInt ≤ 0))) G (fun u => va_pl Ls (cellOf cy K ln u)) (va_A (va_pl Ls (cellOf cy K ln hp0)) sz)) 0 0 (va_A (va_pl Ls (cellOf cy K ln hp0)) sz) := by
  refine met_of2 (y := yX5_enter) (L := 2) (av := [.ref qa900, .int zi901]) (Qc := fun A => QBi (S := (Nat → Nat → Value)) (fun (r : Int32) (u : (Nat → Nat → Value)) => Ok K u ∧ Fr [6002, 6003, 6004] K hp0 u ∧ ((0 : Int) ≤ r.toInt ∧ r.toInt ≤ 1) ∧ (r = 1 → ∃ z : Int32, u qa900 2 = .int z ∧ ((1 : Int) ≤ z.toInt ∧ z.toInt ≤ 400)) ∧ (r = 1 → ∃ z : Int32, u qa900 4 = .int z ∧ ((0 : Int) ≤ z.toInt ∧ z.toInt ≤ 0))) G (fun u => va_pl Ls (cellOf cy K ln u)) A) (plainFor_of_name (by decide)) (Nat.le_of_ble_eq_true rfl) ?_
  intro p e s m below meth c hsz hx hb hr hml hown hT hlocks hin hK A hA hE hw hS ls hl
  have hw : PW G cy K ln Ls A hp0 s.heap := hw
  have hown : s.vm.findClass "LieClock$Parser" = some m.cls := hown
  have hl : lv_has ls 2 [(0, .ref qa900), (1, .int zi901)] := hl
  obtain ⟨Q, hQ⟩ : ∃ Q : State → Prop, Q = MQ below (QBi (S := (Nat → Nat → Value)) (fun (r : Int32) (u : (Nat → Nat → Value)) => Ok K u ∧ Fr [6002, 6003, 6004] K hp0 u ∧ ((0 : Int) ≤ r.toInt ∧ r.toInt ≤ 1) ∧ (r = 1 → ∃ z : Int32, u qa900 2 = .int z ∧ ((1 : Int) ≤ z.toInt ∧ z.toInt ≤ 400)) ∧ (r = 1 → ∃ z : Int32, u qa900 4 = .int z ∧ ((0 : Int) ≤ z.toInt ∧ z.toInt ≤ 0))) G (fun u => va_pl Ls (cellOf cy K ln u)) A) ([.ref qa900, .int zi901] : List Value).toArray s 0 0 A := ⟨_, rfl⟩
  rw [← hQ]
  refine lv_iload_n hx hb dX5_enter_0 rfl (lv_at hl 1 rfl) ?_
  refine lv_bipush (v := 6) hx hb dX5_enter_1 (by decide) ?_
  refine lv_icmp_lt (tgt := 11) hx hb dX5_enter_3 (by decide) (fun _ => ?_) (fun c => absurd (d_lt bd901 bc_6 (by decide)) c)
  refine lv_aload_n hx hb dX5_enter_11 rfl (lv_at hl 0 rfl) ?_
  refine lv_bipush (v := 40) hx hb dX5_enter_12 (by decide) ?_
  refine kq_i hw hS hA (va_runV (As := [.int 40]) (rest := []) ⟨hx, hb, hml, hown, hT⟩ (cX5_accept_0 l G cy ev K ln Ls hW _ hp0 ok0 qa900 40 kd900) (cwV 1 hT (good_V tb_854 tb_851 tb_853 tb_8 tb_109) rfl rfl rfl (by decide +kernel) ⟨Nat.le_of_ble_eq_true rfl, Nat.le_of_ble_eq_true rfl⟩) (pool_preV (ci := 5) hK hE hS hA hw hW kd900 (by decide) rfl) rfl rfl hl.1 rfl (lv_room (Nat.le_of_ble_eq_true rfl)) dX5_enter_14 ⟨Nat.le_of_ble_eq_true rfl, Nat.le_of_ble_eq_true rfl⟩) (fun zi5 hp1 H locs hq4 hw hS => ?_)
  obtain ⟨ok2, F3, bd6, hc7, hc8⟩ := hq4
  have hw : PW G cy K ln Ls A hp1 H := hw
  rcases b01 bd6 with cn9 | cn9
  · skip
    subst cn9
    rw [hQ]
    exact kz_i hx hb hr hlocks hS (nz_n bc_0 (by decide) (by decide)) hp1 hw ⟨ok2, (Fr.tr (Fr.rf) F3 (by decide)), (b_wid2 bc_0 (by decide) (by decide)), (fun h => absurd h (by decide)), (fun h => absurd h (by decide))⟩ (Nat.le_of_ble_eq_true rfl) (Nat.le_of_ble_eq_true rfl) dX5_enter_17
  · skip
    subst cn9
    obtain ⟨zi10, eq11, bd12⟩ := hc7 rfl
    obtain ⟨zi13, eq14, bd15⟩ := hc8 rfl
    rw [hQ]
    exact kz_i hx hb hr hlocks hS (nz_n bc_1 (by decide) (by decide)) hp1 hw ⟨ok2, (Fr.tr (Fr.rf) F3 (by decide)), (b_wid2 bc_1 (by decide) (by decide)), (fun _ => ⟨_, eq11, b_wid2 bd12 (by decide) (by decide)⟩), (fun _ => ⟨_, eq14, b_wid2 bd15 (by decide) (by decide)⟩)⟩ (Nat.le_of_ble_eq_true rfl) (Nat.le_of_ble_eq_true rfl) dX5_enter_17

set_option maxRecDepth 100000 in
set_option maxHeartbeats 4000000 in
theorem cX5_enter_4 (l : Launch) (G : va_G) (cy : Nat → ClassId) (ev : Ew) (K ln : Nat → Nat) (Ls : List Nat) (hW : SW K ln Ls) (sz : Nat) (hp0 : Nat → Nat → Value) (ok0 : Ok K hp0) (qa900 : Nat) (zi901 : Int32) (kd900 : K qa900 = 6) (bd901 : ((4 : Int) ≤ zi901.toInt ∧ zi901.toInt ≤ 4)) : Met l yX5_enter (WS yX5_enter cX5_enter 2 (some .boolean)) { frames := 1, cells := 0, slots := 0, locals := 21 } (PB2 [.ref qa900, .int zi901] sz G cy ev (va_pl Ls (cellOf cy K ln hp0))) (QBi (S := (Nat → Nat → Value)) (fun (r : Int32) (u : (Nat → Nat → Value)) => Ok K u ∧ Fr [6002, 6003, 6004] K hp0 u ∧ ((0 : Int) ≤ r.toInt ∧ r.toInt ≤ 1) ∧ (r = 1 → ∃ z : Int32, u qa900 2 = .int z ∧ ((1 : Int) ≤ z.toInt ∧ z.toInt ≤ 400)) ∧ (r = 1 → ∃ z : Int32, u qa900 4 = .int z ∧ ((0 : Int) ≤ z.toInt ∧ z.toInt ≤ 0))) G (fun u => va_pl Ls (cellOf cy K ln u)) (va_A (va_pl Ls (cellOf cy K ln hp0)) sz)) 0 0 (va_A (va_pl Ls (cellOf cy K ln hp0)) sz) := by
  refine met_of2 (y := yX5_enter) (L := 2) (av := [.ref qa900, .int zi901]) (Qc := fun A => QBi (S := (Nat → Nat → Value)) (fun (r : Int32) (u : (Nat → Nat → Value)) => Ok K u ∧ Fr [6002, 6003, 6004] K hp0 u ∧ ((0 : Int) ≤ r.toInt ∧ r.toInt ≤ 1) ∧ (r = 1 → ∃ z : Int32, u qa900 2 = .int z ∧ ((1 : Int) ≤ z.toInt ∧ z.toInt ≤ 400)) ∧ (r = 1 → ∃ z : Int32, u qa900 4 = .int z ∧ ((0 : Int) ≤ z.toInt ∧ z.toInt ≤ 0))) G (fun u => va_pl Ls (cellOf cy K ln u)) A) (plainFor_of_name (by decide)) (Nat.le_of_ble_eq_true rfl) ?_
  intro p e s m below meth c hsz hx hb hr hml hown hT hlocks hin hK A hA hE hw hS ls hl
  have hw : PW G cy K ln Ls A hp0 s.heap := hw
  have hown : s.vm.findClass "LieClock$Parser" = some m.cls := hown
  have hl : lv_has ls 2 [(0, .ref qa900), (1, .int zi901)] := hl
  obtain ⟨Q, hQ⟩ : ∃ Q : State → Prop, Q = MQ below (QBi (S := (Nat → Nat → Value)) (fun (r : Int32) (u : (Nat → Nat → Value)) => Ok K u ∧ Fr [6002, 6003, 6004] K hp0 u ∧ ((0 : Int) ≤ r.toInt ∧ r.toInt ≤ 1) ∧ (r = 1 → ∃ z : Int32, u qa900 2 = .int z ∧ ((1 : Int) ≤ z.toInt ∧ z.toInt ≤ 400)) ∧ (r = 1 → ∃ z : Int32, u qa900 4 = .int z ∧ ((0 : Int) ≤ z.toInt ∧ z.toInt ≤ 0))) G (fun u => va_pl Ls (cellOf cy K ln u)) A) ([.ref qa900, .int zi901] : List Value).toArray s 0 0 A := ⟨_, rfl⟩
  rw [← hQ]
  refine lv_iload_n hx hb dX5_enter_0 rfl (lv_at hl 1 rfl) ?_
  refine lv_bipush (v := 6) hx hb dX5_enter_1 (by decide) ?_
  refine lv_icmp_lt (tgt := 11) hx hb dX5_enter_3 (by decide) (fun _ => ?_) (fun c => absurd (d_lt bd901 bc_6 (by decide)) c)
  refine lv_aload_n hx hb dX5_enter_11 rfl (lv_at hl 0 rfl) ?_
  refine lv_bipush (v := 40) hx hb dX5_enter_12 (by decide) ?_
  refine kq_i hw hS hA (va_runV (As := [.int 40]) (rest := []) ⟨hx, hb, hml, hown, hT⟩ (cX5_accept_0 l G cy ev K ln Ls hW _ hp0 ok0 qa900 40 kd900) (cwV 1 hT (good_V tb_854 tb_851 tb_853 tb_8 tb_109) rfl rfl rfl (by decide +kernel) ⟨Nat.le_of_ble_eq_true rfl, Nat.le_of_ble_eq_true rfl⟩) (pool_preV (ci := 5) hK hE hS hA hw hW kd900 (by decide) rfl) rfl rfl hl.1 rfl (lv_room (Nat.le_of_ble_eq_true rfl)) dX5_enter_14 ⟨Nat.le_of_ble_eq_true rfl, Nat.le_of_ble_eq_true rfl⟩) (fun zi5 hp1 H locs hq4 hw hS => ?_)
  obtain ⟨ok2, F3, bd6, hc7, hc8⟩ := hq4
  have hw : PW G cy K ln Ls A hp1 H := hw
  rcases b01 bd6 with cn9 | cn9
  · skip
    subst cn9
    rw [hQ]
    exact kz_i hx hb hr hlocks hS (nz_n bc_0 (by decide) (by decide)) hp1 hw ⟨ok2, (Fr.tr (Fr.rf) F3 (by decide)), (b_wid2 bc_0 (by decide) (by decide)), (fun h => absurd h (by decide)), (fun h => absurd h (by decide))⟩ (Nat.le_of_ble_eq_true rfl) (Nat.le_of_ble_eq_true rfl) dX5_enter_17
  · skip
    subst cn9
    obtain ⟨zi10, eq11, bd12⟩ := hc7 rfl
    obtain ⟨zi13, eq14, bd15⟩ := hc8 rfl
    rw [hQ]
    exact kz_i hx hb hr hlocks hS (nz_n bc_1 (by decide) (by decide)) hp1 hw ⟨ok2, (Fr.tr (Fr.rf) F3 (by decide)), (b_wid2 bc_1 (by decide) (by decide)), (fun _ => ⟨_, eq11, b_wid2 bd12 (by decide) (by decide)⟩), (fun _ => ⟨_, eq14, b_wid2 bd15 (by decide) (by decide)⟩)⟩ (Nat.le_of_ble_eq_true rfl) (Nat.le_of_ble_eq_true rfl) dX5_enter_17

set_option maxRecDepth 100000 in
set_option maxHeartbeats 4000000 in
theorem cX5_enter_5 (l : Launch) (G : va_G) (cy : Nat → ClassId) (ev : Ew) (K ln : Nat → Nat) (Ls : List Nat) (hW : SW K ln Ls) (sz : Nat) (hp0 : Nat → Nat → Value) (ok0 : Ok K hp0) (qa900 : Nat) (zi901 : Int32) (kd900 : K qa900 = 6) (bd901 : ((5 : Int) ≤ zi901.toInt ∧ zi901.toInt ≤ 5)) : Met l yX5_enter (WS yX5_enter cX5_enter 2 (some .boolean)) { frames := 1, cells := 0, slots := 0, locals := 21 } (PB2 [.ref qa900, .int zi901] sz G cy ev (va_pl Ls (cellOf cy K ln hp0))) (QBi (S := (Nat → Nat → Value)) (fun (r : Int32) (u : (Nat → Nat → Value)) => Ok K u ∧ Fr [6002, 6003, 6004] K hp0 u ∧ ((0 : Int) ≤ r.toInt ∧ r.toInt ≤ 1) ∧ (r = 1 → ∃ z : Int32, u qa900 2 = .int z ∧ ((1 : Int) ≤ z.toInt ∧ z.toInt ≤ 400)) ∧ (r = 1 → ∃ z : Int32, u qa900 4 = .int z ∧ ((0 : Int) ≤ z.toInt ∧ z.toInt ≤ 0))) G (fun u => va_pl Ls (cellOf cy K ln u)) (va_A (va_pl Ls (cellOf cy K ln hp0)) sz)) 0 0 (va_A (va_pl Ls (cellOf cy K ln hp0)) sz) := by
  refine met_of2 (y := yX5_enter) (L := 2) (av := [.ref qa900, .int zi901]) (Qc := fun A => QBi (S := (Nat → Nat → Value)) (fun (r : Int32) (u : (Nat → Nat → Value)) => Ok K u ∧ Fr [6002, 6003, 6004] K hp0 u ∧ ((0 : Int) ≤ r.toInt ∧ r.toInt ≤ 1) ∧ (r = 1 → ∃ z : Int32, u qa900 2 = .int z ∧ ((1 : Int) ≤ z.toInt ∧ z.toInt ≤ 400)) ∧ (r = 1 → ∃ z : Int32, u qa900 4 = .int z ∧ ((0 : Int) ≤ z.toInt ∧ z.toInt ≤ 0))) G (fun u => va_pl Ls (cellOf cy K ln u)) A) (plainFor_of_name (by decide)) (Nat.le_of_ble_eq_true rfl) ?_
  intro p e s m below meth c hsz hx hb hr hml hown hT hlocks hin hK A hA hE hw hS ls hl
  have hw : PW G cy K ln Ls A hp0 s.heap := hw
  have hown : s.vm.findClass "LieClock$Parser" = some m.cls := hown
  have hl : lv_has ls 2 [(0, .ref qa900), (1, .int zi901)] := hl
  obtain ⟨Q, hQ⟩ : ∃ Q : State → Prop, Q = MQ below (QBi (S := (Nat → Nat → Value)) (fun (r : Int32) (u : (Nat → Nat → Value)) => Ok K u ∧ Fr [6002, 6003, 6004] K hp0 u ∧ ((0 : Int) ≤ r.toInt ∧ r.toInt ≤ 1) ∧ (r = 1 → ∃ z : Int32, u qa900 2 = .int z ∧ ((1 : Int) ≤ z.toInt ∧ z.toInt ≤ 400)) ∧ (r = 1 → ∃ z : Int32, u qa900 4 = .int z ∧ ((0 : Int) ≤ z.toInt ∧ z.toInt ≤ 0))) G (fun u => va_pl Ls (cellOf cy K ln u)) A) ([.ref qa900, .int zi901] : List Value).toArray s 0 0 A := ⟨_, rfl⟩
  rw [← hQ]
  refine lv_iload_n hx hb dX5_enter_0 rfl (lv_at hl 1 rfl) ?_
  refine lv_bipush (v := 6) hx hb dX5_enter_1 (by decide) ?_
  refine lv_icmp_lt (tgt := 11) hx hb dX5_enter_3 (by decide) (fun _ => ?_) (fun c => absurd (d_lt bd901 bc_6 (by decide)) c)
  refine lv_aload_n hx hb dX5_enter_11 rfl (lv_at hl 0 rfl) ?_
  refine lv_bipush (v := 40) hx hb dX5_enter_12 (by decide) ?_
  refine kq_i hw hS hA (va_runV (As := [.int 40]) (rest := []) ⟨hx, hb, hml, hown, hT⟩ (cX5_accept_0 l G cy ev K ln Ls hW _ hp0 ok0 qa900 40 kd900) (cwV 1 hT (good_V tb_854 tb_851 tb_853 tb_8 tb_109) rfl rfl rfl (by decide +kernel) ⟨Nat.le_of_ble_eq_true rfl, Nat.le_of_ble_eq_true rfl⟩) (pool_preV (ci := 5) hK hE hS hA hw hW kd900 (by decide) rfl) rfl rfl hl.1 rfl (lv_room (Nat.le_of_ble_eq_true rfl)) dX5_enter_14 ⟨Nat.le_of_ble_eq_true rfl, Nat.le_of_ble_eq_true rfl⟩) (fun zi5 hp1 H locs hq4 hw hS => ?_)
  obtain ⟨ok2, F3, bd6, hc7, hc8⟩ := hq4
  have hw : PW G cy K ln Ls A hp1 H := hw
  rcases b01 bd6 with cn9 | cn9
  · skip
    subst cn9
    rw [hQ]
    exact kz_i hx hb hr hlocks hS (nz_n bc_0 (by decide) (by decide)) hp1 hw ⟨ok2, (Fr.tr (Fr.rf) F3 (by decide)), (b_wid2 bc_0 (by decide) (by decide)), (fun h => absurd h (by decide)), (fun h => absurd h (by decide))⟩ (Nat.le_of_ble_eq_true rfl) (Nat.le_of_ble_eq_true rfl) dX5_enter_17
  · skip
    subst cn9
    obtain ⟨zi10, eq11, bd12⟩ := hc7 rfl
    obtain ⟨zi13, eq14, bd15⟩ := hc8 rfl
    rw [hQ]
    exact kz_i hx hb hr hlocks hS (nz_n bc_1 (by decide) (by decide)) hp1 hw ⟨ok2, (Fr.tr (Fr.rf) F3 (by decide)), (b_wid2 bc_1 (by decide) (by decide)), (fun _ => ⟨_, eq11, b_wid2 bd12 (by decide) (by decide)⟩), (fun _ => ⟨_, eq14, b_wid2 bd15 (by decide) (by decide)⟩)⟩ (Nat.le_of_ble_eq_true rfl) (Nat.le_of_ble_eq_true rfl) dX5_enter_17

set_option maxRecDepth 100000 in
set_option maxHeartbeats 4000000 in
theorem cX5_accept_1 (l : Launch) (G : va_G) (cy : Nat → ClassId) (ev : Ew) (K ln : Nat → Nat) (Ls : List Nat) (hW : SW K ln Ls) (sz : Nat) (hp0 : Nat → Nat → Value) (ok0 : Ok K hp0) (qa900 : Nat) (zi901 : Int32) (zi954 : Int32) (kd900 : K qa900 = 6) (eq954 : hp0 qa900 4 = .int zi954) (bd954 : ((1 : Int) ≤ zi954.toInt ∧ zi954.toInt ≤ 2)) : Met l yX5_accept (WS yX5_accept cX5_accept 2 (some .boolean)) { frames := 0, cells := 0, slots := 0, locals := 0 } (PB2 [.ref qa900, .int zi901] sz G cy ev (va_pl Ls (cellOf cy K ln hp0))) (QBi (S := (Nat → Nat → Value)) (fun (r : Int32) (u : (Nat → Nat → Value)) => Ok K u ∧ Fr [] K hp0 u ∧ ((0 : Int) ≤ r.toInt ∧ r.toInt ≤ 0)) G (fun u => va_pl Ls (cellOf cy K ln u)) (va_A (va_pl Ls (cellOf cy K ln hp0)) sz)) 0 0 (va_A (va_pl Ls (cellOf cy K ln hp0)) sz) := by
  refine met_of2 (y := yX5_accept) (L := 2) (av := [.ref qa900, .int zi901]) (Qc := fun A => QBi (S := (Nat → Nat → Value)) (fun (r : Int32) (u : (Nat → Nat → Value)) => Ok K u ∧ Fr [] K hp0 u ∧ ((0 : Int) ≤ r.toInt ∧ r.toInt ≤ 0)) G (fun u => va_pl Ls (cellOf cy K ln u)) A) (plainFor_of_name (by decide)) (Nat.le_of_ble_eq_true rfl) ?_
  intro p e s m below meth c hsz hx hb hr hml hown hT hlocks hin hK A hA hE hw hS ls hl
  have hw : PW G cy K ln Ls A hp0 s.heap := hw
  have hown : s.vm.findClass "LieClock$Parser" = some m.cls := hown
  have hl : lv_has ls 2 [(0, .ref qa900), (1, .int zi901)] := hl
  obtain ⟨Q, hQ⟩ : ∃ Q : State → Prop, Q = MQ below (QBi (S := (Nat → Nat → Value)) (fun (r : Int32) (u : (Nat → Nat → Value)) => Ok K u ∧ Fr [] K hp0 u ∧ ((0 : Int) ≤ r.toInt ∧ r.toInt ≤ 0)) G (fun u => va_pl Ls (cellOf cy K ln u)) A) ([.ref qa900, .int zi901] : List Value).toArray s 0 0 A := ⟨_, rfl⟩
  rw [← hQ]
  refine lv_aload_n hx hb dX5_accept_0 rfl (lv_at hl 0 rfl) ?_
  obtain ⟨zi2, eq1⟩ := rd_6003 ok0 kd900
  refine p_get (ci := 5) (v := .int zi2) (C := RX5) (T := TX5) (N := 7) hx hb hT iw_X5 hown hK hw hW kd900 (by decide) rfl rfl 3 (by decide) eq1 (hT _ tb_374) (fun _ h9 => h9) dX5_accept_1 ?_
  refine lv_iload_n hx hb dX5_accept_4 rfl (lv_at hl 1 rfl) ?_
  refine lv_icmp_ne (tgt := 15) hx hb dX5_accept_5 (by decide) (fun cn3 => ?_) (fun cn3 => ?_)
  · skip
    refine lv_iconst (v := 0) hx hb dX5_accept_15 (by decide) ?_
    rw [hQ]
    exact kz_i hx hb hr hlocks hS (nz_n bc_0 (by decide) (by decide)) hp0 hw ⟨ok0, (Fr.rf), (b_wid2 bc_0 (by decide) (by decide))⟩ (Nat.le_of_ble_eq_true rfl) (Nat.le_of_ble_eq_true rfl) dX5_accept_16
  · skip
    refine lv_aload_n hx hb dX5_accept_8 rfl (lv_at hl 0 rfl) ?_
    refine p_get (ci := 5) (v := .int zi954) (C := RX5) (T := TX5) (N := 7) hx hb hT iw_X5 hown hK hw hW kd900 (by decide) rfl rfl 4 (by decide) eq954 (hT _ tb_375) (fun _ h9 => h9) dX5_accept_9 ?_
    refine lv_if_eq (tgt := 17) hx hb dX5_accept_12 (by decide) (fun c => absurd c (d_ne bd954 bc_0 (by decide))) (fun _ => ?_)
    refine lv_iconst (v := 0) hx hb dX5_accept_15 (by decide) ?_
    rw [hQ]
    exact kz_i hx hb hr hlocks hS (nz_n bc_0 (by decide) (by decide)) hp0 hw ⟨ok0, (Fr.rf), (b_wid2 bc_0 (by decide) (by decide))⟩ (Nat.le_of_ble_eq_true rfl) (Nat.le_of_ble_eq_true rfl) dX5_accept_16

set_option maxRecDepth 100000 in
set_option maxHeartbeats 4000000 in
theorem cX5_enter_6 (l : Launch) (G : va_G) (cy : Nat → ClassId) (ev : Ew) (K ln : Nat → Nat) (Ls : List Nat) (hW : SW K ln Ls) (sz : Nat) (hp0 : Nat → Nat → Value) (ok0 : Ok K hp0) (qa900 : Nat) (zi901 : Int32) (kd900 : K qa900 = 6) (bd901 : ((6 : Int) ≤ zi901.toInt ∧ zi901.toInt ≤ 6)) : Met l yX5_enter (WS yX5_enter cX5_enter 2 (some .boolean)) { frames := 1, cells := 0, slots := 0, locals := 21 } (PB2 [.ref qa900, .int zi901] sz G cy ev (va_pl Ls (cellOf cy K ln hp0))) (QBi (S := (Nat → Nat → Value)) (fun (r : Int32) (u : (Nat → Nat → Value)) => Ok K u ∧ Fr [6003, 6004] K hp0 u ∧ ((0 : Int) ≤ r.toInt ∧ r.toInt ≤ 0) ∧ (∃ z : Int32, u qa900 4 = .int z ∧ ((1 : Int) ≤ z.toInt ∧ z.toInt ≤ 2))) G (fun u => va_pl Ls (cellOf cy K ln u)) (va_A (va_pl Ls (cellOf cy K ln hp0)) sz)) 0 0 (va_A (va_pl Ls (cellOf cy K ln hp0)) sz) := by
  refine met_of2 (y := yX5_enter) (L := 2) (av := [.ref qa900, .int zi901]) (Qc := fun A => QBi (S := (Nat → Nat → Value)) (fun (r : Int32) (u : (Nat → Nat → Value)) => Ok K u ∧ Fr [6003, 6004] K hp0 u ∧ ((0 : Int) ≤ r.toInt ∧ r.toInt ≤ 0) ∧ (∃ z : Int32, u qa900 4 = .int z ∧ ((1 : Int) ≤ z.toInt ∧ z.toInt ≤ 2))) G (fun u => va_pl Ls (cellOf cy K ln u)) A) (plainFor_of_name (by decide)) (Nat.le_of_ble_eq_true rfl) ?_
  intro p e s m below meth c hsz hx hb hr hml hown hT hlocks hin hK A hA hE hw hS ls hl
  have hw : PW G cy K ln Ls A hp0 s.heap := hw
  have hown : s.vm.findClass "LieClock$Parser" = some m.cls := hown
  have hl : lv_has ls 2 [(0, .ref qa900), (1, .int zi901)] := hl
  obtain ⟨Q, hQ⟩ : ∃ Q : State → Prop, Q = MQ below (QBi (S := (Nat → Nat → Value)) (fun (r : Int32) (u : (Nat → Nat → Value)) => Ok K u ∧ Fr [6003, 6004] K hp0 u ∧ ((0 : Int) ≤ r.toInt ∧ r.toInt ≤ 0) ∧ (∃ z : Int32, u qa900 4 = .int z ∧ ((1 : Int) ≤ z.toInt ∧ z.toInt ≤ 2))) G (fun u => va_pl Ls (cellOf cy K ln u)) A) ([.ref qa900, .int zi901] : List Value).toArray s 0 0 A := ⟨_, rfl⟩
  rw [← hQ]
  refine lv_iload_n hx hb dX5_enter_0 rfl (lv_at hl 1 rfl) ?_
  refine lv_bipush (v := 6) hx hb dX5_enter_1 (by decide) ?_
  refine lv_icmp_lt (tgt := 11) hx hb dX5_enter_3 (by decide) (fun c => absurd c (d_nlt bd901 bc_6 (by decide))) (fun _ => ?_)
  refine lv_aload_n hx hb dX5_enter_6 rfl (lv_at hl 0 rfl) ?_
  refine lv_iconst (v := 2) hx hb dX5_enter_7 (by decide) ?_
  refine kq_v hw hS hA (va_runV (As := [.int 2]) (rest := []) ⟨hx, hb, hml, hown, hT⟩ (cX5_fail_0 l G cy ev K ln Ls hW _ hp0 ok0 qa900 2 kd900 (b_wid2 bc_2 (by decide) (by decide))) (cwV 1 hT (good_V tb_850 tb_847 tb_849 tb_7 tb_109) rfl rfl rfl (by decide +kernel) ⟨Nat.le_of_ble_eq_true rfl, Nat.le_of_ble_eq_true rfl⟩) (pool_preV (ci := 5) hK hE hS hA hw hW kd900 (by decide) rfl) rfl rfl hl.1 rfl (lv_room (Nat.le_of_ble_eq_true rfl)) dX5_enter_8 ⟨Nat.le_of_ble_eq_true rfl, Nat.le_of_ble_eq_true rfl⟩) (fun hp1 H locs hq4 hw hS => ?_)
  obtain ⟨ok2, F3, ⟨zi6, eq7, bd8⟩⟩ := hq4
  have hw : PW G cy K ln Ls A hp1 H := hw
  refine lv_aload_n hx hb dX5_enter_11 rfl (lv_at hl 0 rfl) ?_
  refine lv_bipush (v := 40) hx hb dX5_enter_12 (by decide) ?_
  refine kq_i hw hS hA (va_runV (As := [.int 40]) (rest := []) ⟨hx, hb, hml, hown, hT⟩ (cX5_accept_1 l G cy ev K ln Ls hW _ hp1 ok2 qa900 40 zi6 kd900 eq7 (b_wid2 bd8 (by decide) (by decide))) (cwV 1 hT (good_V tb_854 tb_851 tb_853 tb_8 tb_109) rfl rfl rfl (by decide +kernel) ⟨Nat.le_of_ble_eq_true rfl, Nat.le_of_ble_eq_true rfl⟩) (pool_preV (ci := 5) hK hE hS hA hw hW kd900 (by decide) rfl) rfl rfl hl.1 rfl (lv_room (Nat.le_of_ble_eq_true rfl)) dX5_enter_14 ⟨Nat.le_of_ble_eq_true rfl, Nat.le_of_ble_eq_true rfl⟩) (fun zi13 hp9 H locs hq12 hw hS => ?_)
  obtain ⟨ok10, F11, bd14⟩ := hq12
  obtain rfl : hp1 = hp9 := (Fr.nil F11).symm
  have hw : PW G cy K ln Ls A hp1 H := hw
  rw [hQ]
  exact kz_i hx hb hr hlocks hS (nz_n bd14 (by decide) (by decide)) hp1 hw ⟨ok2, (Fr.tr (Fr.rf) F3 (by decide)), (b_wid2 bd14 (by decide) (by decide)), ⟨_, eq7, b_wid2 bd8 (by decide) (by decide)⟩⟩ (Nat.le_of_ble_eq_true rfl) (Nat.le_of_ble_eq_true rfl) dX5_enter_17

set_option maxRecDepth 100000 in
set_option maxHeartbeats 4000000 in
theorem cX5_literal_0 (l : Launch) (G : va_G) (cy : Nat → ClassId) (ev : Ew) (K ln : Nat → Nat) (Ls : List Nat) (hW : SW K ln Ls) (sz : Nat) (hp0 : Nat → Nat → Value) (ok0 : Ok K hp0) (qa900 : Nat) (zi901 : Int32) (kd900 : K qa900 = 6) (bd901 : ((6 : Int) ≤ zi901.toInt ∧ zi901.toInt ≤ 6)) : Met l yX5_literal (WS yX5_literal cX5_literal 6 (some .long)) { frames := 2, cells := 0, slots := 0, locals := 46 } (PB2 [.ref qa900, .int zi901] sz G cy ev (va_pl Ls (cellOf cy K ln hp0))) (QBl (S := (Nat → Nat → Value)) (fun (r : Int64) (u : (Nat → Nat → Value)) => Ok K u ∧ Fr [6002, 6003, 6004, 6005, 6006] K hp0 u) G (fun u => va_pl Ls (cellOf cy K ln u)) (va_A (va_pl Ls (cellOf cy K ln hp0)) sz)) 0 0 (va_A (va_pl Ls (cellOf cy K ln hp0)) sz) := by
  refine met_of2 (y := yX5_literal) (L := 6) (av := [.ref qa900, .int zi901]) (Qc := fun A => QBl (S := (Nat → Nat → Value)) (fun (r : Int64) (u : (Nat → Nat → Value)) => Ok K u ∧ Fr [6002, 6003, 6004, 6005, 6006] K hp0 u) G (fun u => va_pl Ls (cellOf cy K ln u)) A) (plainFor_of_name (by decide)) (Nat.le_of_ble_eq_true rfl) ?_
  intro p e s m below meth c hsz hx hb hr hml hown hT hlocks hin hK A hA hE hw hS ls hl
  have hw : PW G cy K ln Ls A hp0 s.heap := hw
  have hown : s.vm.findClass "LieClock$Parser" = some m.cls := hown
  have hl : lv_has ls 6 [(0, .ref qa900), (1, .int zi901)] := hl
  obtain ⟨Q, hQ⟩ : ∃ Q : State → Prop, Q = MQ below (QBl (S := (Nat → Nat → Value)) (fun (r : Int64) (u : (Nat → Nat → Value)) => Ok K u ∧ Fr [6002, 6003, 6004, 6005, 6006] K hp0 u) G (fun u => va_pl Ls (cellOf cy K ln u)) A) ([.ref qa900, .int zi901] : List Value).toArray s 0 0 A := ⟨_, rfl⟩
  rw [← hQ]
  refine lv_iconst (v := 0) hx hb dX5_literal_0 (by decide) ?_
  refine lv_istore_n (lv' := [(2, .int 0), (0, .ref qa900), (1, .int zi901)]) hx hb dX5_literal_1 rfl hl (by decide) rfl (fun ls hl => ?_)
  refine lv_iconst (v := 0) hx hb dX5_literal_2 (by decide) ?_
  refine lv_istore_n (lv' := [(3, .int 0), (2, .int 0), (0, .ref qa900), (1, .int zi901)]) hx hb dX5_literal_3 rfl hl (by decide) rfl (fun ls hl => ?_)
  have jn341 : ∀ (hp337 : Nat → Nat → Value) (zi336 : Int32) (H : Heap) (locs : List Loc) (ls : Array Slot), Ok K hp337 → Fr [6002, 6003, 6004] K hp0 hp337 → ((0 : Int) ≤ zi336.toInt ∧ zi336.toInt ≤ 1) → lv_has ls 6 [(0, .ref qa900), (1, .int zi901), (2, .int zi336)] → PW G cy K ln Ls A hp337 H → va_S A s.heap H locs → W p l e ({ frames := 2, cells := 0, slots := 0, locals := 46 } : Room) s m ([.ref qa900, .int zi901] : List Value).toArray below meth c H locs 0 0 Q (F0 m 36 ls []) := by
    intro hp337 zi336 H locs ls ok339 F338 bd340 hl hw hS
    refine lv_lconst (v := 0) hx hb dX5_literal_36 (by decide) ?_
    refine lv_lstore_n (lv' := [(3, .long 0), (0, .ref qa900), (1, .int zi901), (2, .int zi336)]) hx hb dX5_literal_37 rfl hl (by decide) rfl (fun ls hl => ?_)
    refine lv_aload_n hx hb dX5_literal_38 rfl (lv_at hl 1 rfl) ?_
    obtain ⟨zi343, eq342⟩ := rd_6003 ok339 kd900
    refine p_get (ci := 5) (v := .int zi343) (C := RX5) (T := TX5) (N := 7) hx hb hT iw_X5 hown hK hw hW kd900 (by decide) rfl rfl 3 (by decide) eq342 (hT _ tb_374) (fun _ h9 => h9) dX5_literal_39 ?_
    refine lv_bipush (v := 40) hx hb dX5_literal_42 (by decide) ?_
    have jn387 : ∀ (hp384 : Nat → Nat → Value) (wl383 : Int64) (H : Heap) (locs : List Loc) (ls : Array Slot), Ok K hp384 → Fr [6002, 6003, 6004, 6005, 6006] K hp337 hp384 → lv_has ls 6 [(2, .int zi336), (3, .long wl383)] → PW G cy K ln Ls A hp384 H → va_S A s.heap H locs → W p l e ({ frames := 2, cells := 0, slots := 0, locals := 46 } : Room) s m ([.ref qa900, .int zi901] : List Value).toArray below meth c H locs 0 0 Q (F0 m 113 ls []) := by
      intro hp384 wl383 H locs ls ok386 F385 hl hw hS
      refine lv_iload_n hx hb dX5_literal_113 rfl (lv_at hl 0 rfl) ?_
      refine lv_if_eq (tgt := 125) hx hb dX5_literal_114 (by decide) (fun cn388 => ?_) (fun cn388 => ?_)
      · skip
        have bd389 : (0 : Int) ≤ zi336.toInt ∧ zi336.toInt ≤ 0 := r_eq_x cn388 bd340 bc_0 (by decide) (by decide)
        refine lv_lload_n hx hb dX5_literal_125 rfl (lv_at hl 1 rfl) ?_
        rw [hQ]
        exact kz_l hx hb hr hlocks hS hp384 hw ⟨ok386, (Fr.tr (Fr.tr (Fr.rf) F338 (by decide)) F385 (by decide))⟩ (Nat.le_of_ble_eq_true rfl) (Nat.le_of_ble_eq_true rfl) dX5_literal_126
      · skip
        have bd390 : (1 : Int) ≤ zi336.toInt ∧ zi336.toInt ≤ 1 := r_ne_lo cn388 bd340 (toi bc_0) (by decide) (by decide)
        refine lv_lload_n hx hb dX5_literal_117 rfl (lv_at hl 1 rfl) ?_
        refine lv_ldc2 (v := (-1)) hx hb hown (hT _ tb_925) dX5_literal_118 ?_
        refine lv_lxor hx hb dX5_literal_121 (lv_topl (fun wl391 _ => ?_))
        refine lv_goto (tgt := 126) hx hb dX5_literal_122 (by decide) ?_
        rw [hQ]
        exact kz_l hx hb hr hlocks hS hp384 hw ⟨ok386, (Fr.tr (Fr.tr (Fr.rf) F338 (by decide)) F385 (by decide))⟩ (Nat.le_of_ble_eq_true rfl) (Nat.le_of_ble_eq_true rfl) dX5_literal_126
    refine lv_icmp_ne (tgt := 72) hx hb dX5_literal_44 (by decide) (fun cn344 => ?_) (fun cn344 => ?_)
    · skip
      refine lv_aload_n hx hb dX5_literal_72 rfl (lv_at hl 1 rfl) ?_
      obtain ⟨qa393, eq392, kd394⟩ := rd_6001 ok339 kd900
      refine p_get (ci := 5) (v := .ref qa393) (C := RX5) (T := TX5) (N := 7) hx hb hT iw_X5 hown hK hw hW kd900 (by decide) rfl rfl 1 (by decide) eq392 (hT _ tb_372) (fun _ h9 => h9) dX5_literal_73 ?_
      refine lv_aload_n hx hb dX5_literal_76 rfl (lv_at hl 1 rfl) ?_
      refine lv_iconst (v := 2) hx hb dX5_literal_77 (by decide) ?_
      refine kq_l hw hS hA (va_runV (As := [.int 2]) (rest := [.ref qa393]) ⟨hx, hb, hml, hown, hT⟩ (cX5_take_0 l G cy ev K ln Ls hW _ hp337 ok339 qa900 2 kd900) (cwV 1 hT (good_V tb_862 tb_859 tb_861 tb_10 tb_109) rfl rfl rfl (by decide +kernel) ⟨Nat.le_of_ble_eq_true rfl, Nat.le_of_ble_eq_true rfl⟩) (pool_preV (ci := 5) hK hE hS hA hw hW kd900 (by decide) rfl) rfl rfl hl.1 rfl (lv_room (Nat.le_of_ble_eq_true rfl)) dX5_literal_78 ⟨Nat.le_of_ble_eq_true rfl, Nat.le_of_ble_eq_true rfl⟩) (fun wl399 hp395 H locs hq398 hw hS => ?_)
      obtain ⟨ok396, F397⟩ := hq398
      have hw : PW G cy K ln Ls A hp395 H := hw
      refine kq_i hw hS hA (va_runV (As := [.long wl399]) (rest := []) ⟨hx, hb, hml, hown, hT⟩ (cX10_factNamed_0 l G cy ev K ln Ls hW _ hp395 ok396 qa393 wl399 kd394) (cwV 1 hT (good_V tb_870 tb_923 tb_868 tb_869 tb_107) rfl rfl rfl (by decide +kernel) ⟨Nat.le_of_ble_eq_true rfl, Nat.le_of_ble_eq_true rfl⟩) (pool_preV (ci := 10) hK hE hS hA hw hW kd394 (by decide) rfl) rfl rfl hl.1 rfl (lv_room (Nat.le_of_ble_eq_true rfl)) dX5_literal_81 ⟨Nat.le_of_ble_eq_true rfl, Nat.le_of_ble_eq_true rfl⟩) (fun zi404 hp400 H locs hq403 hw hS => ?_)
      obtain ⟨ok401, F402, bd405⟩ := hq403
      obtain rfl : hp395 = hp400 := (Fr.nil F402).symm
      have hw : PW G cy K ln Ls A hp395 H := hw
      refine lv_istore (lv' := [(5, .int zi404), (3, .long 0), (0, .ref qa900), (1, .int zi901), (2, .int zi336)]) hx hb dX5_literal_84 hl (by decide) rfl (fun ls hl => ?_)
      refine lv_iload hx hb dX5_literal_86 (lv_at hl 0 rfl) ?_
      refine lv_if_lt (tgt := 108) hx hb dX5_literal_88 (by decide) (fun cn406 => ?_) (fun cn406 => ?_)
      · skip
        have bd407 : (-1 : Int) ≤ zi404.toInt ∧ zi404.toInt ≤ -1 := r_lt_x cn406 bd405 bc_0 (by decide) (by decide)
        refine lv_aload_n hx hb dX5_literal_108 rfl (lv_at hl 2 rfl) ?_
        refine lv_iconst (v := 4) hx hb dX5_literal_109 (by decide) ?_
        refine kq_v hw hS hA (va_runV (As := [.int 4]) (rest := []) ⟨hx, hb, hml, hown, hT⟩ (cX5_failSoftly_0 l G cy ev K ln Ls hW _ hp395 ok396 qa900 4 kd900) (cwV 1 hT (good_V tb_881 tb_878 tb_880 tb_11 tb_109) rfl rfl rfl (by decide +kernel) ⟨Nat.le_of_ble_eq_true rfl, Nat.le_of_ble_eq_true rfl⟩) (pool_preV (ci := 5) hK hE hS hA hw hW kd900 (by decide) rfl) rfl rfl hl.1 rfl (lv_room (Nat.le_of_ble_eq_true rfl)) dX5_literal_110 ⟨Nat.le_of_ble_eq_true rfl, Nat.le_of_ble_eq_true rfl⟩) (fun hp408 H locs hq411 hw hS => ?_)
        obtain ⟨ok409, F410⟩ := hq411
        have hw : PW G cy K ln Ls A hp408 H := hw
        exact jn387 hp408 0 _ _ ls ok409 (Fr.tr (Fr.tr (Fr.rf) F397 (by decide)) F410 (by decide)) (lv_sub hl [4, 1] rfl) hw hS
      · skip
        have bd413 : (0 : Int) ≤ zi404.toInt ∧ zi404.toInt ≤ 5 := r_le_y (Int32.not_lt.mp cn406) bc_0 bd405 (by decide) (by decide)
        refine lv_iload hx hb dX5_literal_91 (lv_at hl 0 rfl) ?_
        refine lv_bipush (v := 6) hx hb dX5_literal_93 (by decide) ?_
        refine lv_icmp_ge (tgt := 108) hx hb dX5_literal_95 (by decide) (fun c => absurd c (d_nle bc_6 bd413 (by decide))) (fun _ => ?_)
        refine va_getsN hx hb hE.2.1 hS hown (hK.fl nw_820) (fun _ h9 => h9) dX5_literal_98 ?_
        refine lv_iload hx hb dX5_literal_101 (lv_at hl 0 rfl) ?_
        obtain ⟨wl414, _⟩ : ∃ w : Int64, w = ev.2.2 (zi404 : Int32).toNatClampNeg := ⟨_, rfl⟩
        refine va_tl (v := .long (ev.2.2 (zi404 : Int32).toNatClampNeg)) hx hb hE.2.2 hS (vp_b bd413 (by decide) (by decide)) rfl dX5_literal_103 (lv_topl (fun wl414x _ => ?_))
        refine lv_lstore_n (lv' := [(3, .long wl414x), (5, .int zi404), (0, .ref qa900), (1, .int zi901), (2, .int zi336)]) hx hb dX5_literal_104 rfl hl (by decide) rfl (fun ls hl => ?_)
        refine lv_goto (tgt := 113) hx hb dX5_literal_105 (by decide) ?_
        exact jn387 hp395 wl414x _ _ ls ok396 (Fr.tr (Fr.rf) F397 (by decide)) (lv_sub hl [4, 0] rfl) hw hS
    · skip
      have bd415 : (40 : Int) ≤ zi343.toInt ∧ zi343.toInt ≤ 40 := r_eq_x cn344 (b_all zi343) bc_40 (by decide) (by decide)
      refine lv_aload_n hx hb dX5_literal_47 rfl (lv_at hl 1 rfl) ?_
      refine lv_iload_n hx hb dX5_literal_48 rfl (lv_at hl 2 rfl) ?_
      refine kq_i hw hS hA (va_runV (As := [.int zi901]) (rest := []) ⟨hx, hb, hml, hown, hT⟩ (cX5_enter_6 l G cy ev K ln Ls hW _ hp337 ok339 qa900 zi901 kd900 (b_wid2 bd901 (by decide) (by decide))) (cwV 1 hT (good_V tb_922 tb_919 tb_921 tb_18 tb_109) rfl rfl rfl (by decide +kernel) ⟨Nat.le_of_ble_eq_true rfl, Nat.le_of_ble_eq_true rfl⟩) (pool_preV (ci := 5) hK hE hS hA hw hW kd900 (by decide) rfl) rfl rfl hl.1 rfl (lv_room (Nat.le_of_ble_eq_true rfl)) dX5_literal_49 ⟨Nat.le_of_ble_eq_true rfl, Nat.le_of_ble_eq_true rfl⟩) (fun zi420 hp416 H locs hq419 hw hS => ?_)
      obtain ⟨ok417, F418, bd421, ⟨zi422, eq423, bd424⟩⟩ := hq419
      have hw : PW G cy K ln Ls A hp416 H := hw
      refine lv_if_eq (tgt := 63) hx hb dX5_literal_52 (by decide) (fun _ => ?_) (fun c => absurd (d_eq bd421 bc_0) c)
      refine lv_aload_n hx hb dX5_literal_63 rfl (lv_at hl 1 rfl) ?_
      refine lv_bipush (v := 41) hx hb dX5_literal_64 (by decide) ?_
      refine kq_v hw hS hA (va_runV (As := [.int 41]) (rest := []) ⟨hx, hb, hml, hown, hT⟩ (cX5_expect_0 l G cy ev K ln Ls hW _ hp416 ok417 qa900 41 kd900) (cwV 1 hT (good_V tb_889 tb_886 tb_888 tb_12 tb_109) rfl rfl rfl (by decide +kernel) ⟨Nat.le_of_ble_eq_true rfl, Nat.le_of_ble_eq_true rfl⟩) (pool_preV (ci := 5) hK hE hS hA hw hW kd900 (by decide) rfl) rfl rfl hl.1 rfl (lv_room (Nat.le_of_ble_eq_true rfl)) dX5_literal_66 ⟨Nat.le_of_ble_eq_true rfl, Nat.le_of_ble_eq_true rfl⟩) (fun hp425 H locs hq428 hw hS => ?_)
      obtain ⟨ok426, F427⟩ := hq428
      have hw : PW G cy K ln Ls A hp425 H := hw
      refine lv_goto (tgt := 113) hx hb dX5_literal_69 (by decide) ?_
      exact jn387 hp425 0 _ _ ls ok426 (Fr.tr (Fr.tr (Fr.rf) F418 (by decide)) F427 (by decide)) (lv_sub hl [3, 0] rfl) hw hS
  have lp432 : ∀ (n430 : Nat) (hp269 : Nat → Nat → Value) (zi267 : Int32) (zi268 : Int32) (H : Heap) (locs : List Loc) (ls : Array Slot), 401 - zi268.toInt < (n430 : Int) → Ok K hp269 → Fr [6002, 6003, 6004] K hp0 hp269 → ((0 : Int) ≤ zi267.toInt ∧ zi267.toInt ≤ 1) → ((0 : Int) ≤ zi268.toInt ∧ zi268.toInt ≤ 401) → lv_has ls 6 [(0, .ref qa900), (1, .int zi901), (2, .int zi267), (3, .int zi268)] → PW G cy K ln Ls A hp269 H → va_S A s.heap H locs → W p l e ({ frames := 2, cells := 0, slots := 0, locals := 46 } : Room) s m ([.ref qa900, .int zi901] : List Value).toArray below meth c H locs 0 0 Q (F0 m 4 ls []) := by
    intro n430
    induction n430 with
    | zero =>
      intro hp269 zi267 zi268 H locs ls hm433 ok271 F270 bd272 bd273 hl hw hS
      exact absurd hm433 (by have := bd273; omega)
    | succ n430 ih431 =>
      intro hp269 zi267 zi268 H locs ls hm433 ok271 F270 bd272 bd273 hl hw hS
      refine lv_iload_n hx hb dX5_literal_4 rfl (lv_at hl 3 rfl) ?_
      refine lv_sipush (v := 400) hx hb dX5_literal_5 (by decide) ?_
      refine lv_icmp_gt (tgt := 36) hx hb dX5_literal_8 (by decide) (fun cn434 => ?_) (fun cn434 => ?_)
      · skip
        have bd435 : (401 : Int) ≤ zi268.toInt ∧ zi268.toInt ≤ 401 := r_lt_y cn434 bc_400 bd273 (by decide) (by decide)
        exact jn341 hp269 zi267 _ _ ls ok271 (Fr.tr (Fr.rf) F270 (by decide)) (b_wid2 bd272 (by decide) (by decide)) (lv_sub hl [0, 1, 2] rfl) hw hS
      · skip
        have bd436 : (0 : Int) ≤ zi268.toInt ∧ zi268.toInt ≤ 400 := r_le_x (Int32.not_lt.mp cn434) bd273 bc_400 (by decide) (by decide)
        refine lv_aload_n hx hb dX5_literal_11 rfl (lv_at hl 0 rfl) ?_
        refine lv_bipush (v := 113) hx hb dX5_literal_12 (by decide) ?_
        refine kq_i hw hS hA (va_runV (As := [.int 113]) (rest := []) ⟨hx, hb, hml, hown, hT⟩ (cX5_accept_0 l G cy ev K ln Ls hW _ hp269 ok271 qa900 113 kd900) (cwV 1 hT (good_V tb_854 tb_851 tb_853 tb_8 tb_109) rfl rfl rfl (by decide +kernel) ⟨Nat.le_of_ble_eq_true rfl, Nat.le_of_ble_eq_true rfl⟩) (pool_preV (ci := 5) hK hE hS hA hw hW kd900 (by decide) rfl) rfl rfl hl.1 rfl (lv_room (Nat.le_of_ble_eq_true rfl)) dX5_literal_14 ⟨Nat.le_of_ble_eq_true rfl, Nat.le_of_ble_eq_true rfl⟩) (fun zi441 hp437 H locs hq440 hw hS => ?_)
        obtain ⟨ok438, F439, bd442, hc443, hc444⟩ := hq440
        have hw : PW G cy K ln Ls A hp437 H := hw
        rcases b01 bd442 with cn445 | cn445
        · skip
          subst cn445
          refine lv_if_eq (tgt := 36) hx hb dX5_literal_17 (by decide) (fun _ => ?_) (fun c => absurd (d_eq bc_0 bc_0) c)
          exact jn341 hp437 zi267 _ _ ls ok438 (Fr.tr (Fr.tr (Fr.rf) F270 (by decide)) F439 (by decide)) (b_wid2 bd272 (by decide) (by decide)) (lv_sub hl [0, 1, 2] rfl) hw hS
        · skip
          subst cn445
          obtain ⟨zi446, eq447, bd448⟩ := hc443 rfl
          obtain ⟨zi449, eq450, bd451⟩ := hc444 rfl
          refine lv_if_eq (tgt := 36) hx hb dX5_literal_17 (by decide) (fun c => absurd c (d_ne bc_1 bc_0 (by decide))) (fun _ => ?_)
          refine lv_iload_n hx hb dX5_literal_20 rfl (lv_at hl 2 rfl) ?_
          have jn457 : ∀ (zi455 : Int32) (H : Heap) (locs : List Loc) (ls : Array Slot), ((0 : Int) ≤ zi455.toInt ∧ zi455.toInt ≤ 1) → lv_has ls 6 [(0, .ref qa900), (1, .int zi901), (3, .int zi268)] → PW G cy K ln Ls A hp437 H → va_S A s.heap H locs → W p l e ({ frames := 2, cells := 0, slots := 0, locals := 46 } : Room) s m ([.ref qa900, .int zi901] : List Value).toArray below meth c H locs 0 0 Q (F0 m 29 ls [.int zi455]) := by
            intro zi455 H locs ls bd456 hl hw hS
            refine lv_istore_n (lv' := [(2, .int zi455), (0, .ref qa900), (1, .int zi901), (3, .int zi268)]) hx hb dX5_literal_29 rfl hl (by decide) rfl (fun ls hl => ?_)
            obtain ⟨zi458, ea459⟩ : ∃ z : Int32, z = zi268 + 1 := ⟨_, rfl⟩
            have bd460 : (1 : Int) ≤ zi458.toInt ∧ zi458.toInt ≤ 401 := b_iadd ea459 bd436 bc_1 (by decide) (by decide) (by decide) (by decide)
            have qe461 : zi458.toInt = (zi268 : Int32).toInt + (1 : Int32).toInt := e_iadd ea459 bd436 bc_1 (by decide) (by decide)
            have qe462 : zi458.toInt = zi268.toInt + 1 := by have ha : (1 : Int32).toInt = 1 := (by decide); rw [ha] at qe461; exact qe461
            refine lv_iinc (v := zi458) (lv' := [(3, .int zi458), (2, .int zi455), (0, .ref qa900), (1, .int zi901)]) hx hb dX5_literal_30 hl (k := 3) rfl ea459.symm (by decide) rfl (fun ls hl => ?_)
            refine lv_goto (tgt := 4) hx hb dX5_literal_33 (by decide) ?_
            exact ih431 hp437 zi455 zi458 _ _ ls (by have := hm433; have := qe462; omega) ok438 (Fr.tr (Fr.tr (Fr.rf) F270 (by decide)) F439 (by decide)) (b_wid2 bd456 (by decide) (by decide)) (b_wid2 bd460 (by decide) (by decide)) (lv_sub hl [2, 3, 1, 0] rfl) hw hS
          refine lv_if_ne (tgt := 28) hx hb dX5_literal_21 (by decide) (fun cn452 => ?_) (fun cn452 => ?_)
          · skip
            have bd463 : (1 : Int) ≤ zi267.toInt ∧ zi267.toInt ≤ 1 := r_ne_lo cn452 bd272 (toi bc_0) (by decide) (by decide)
            refine lv_iconst (v := 0) hx hb dX5_literal_28 (by decide) ?_
            exact jn457 0 _ _ ls (b_wid2 bc_0 (by decide) (by decide)) (lv_sub hl [0, 1, 3] rfl) hw hS
          · skip
            have bd464 : (0 : Int) ≤ zi267.toInt ∧ zi267.toInt ≤ 0 := r_eq_x cn452 bd272 bc_0 (by decide) (by decide)
            refine lv_iconst (v := 1) hx hb dX5_literal_24 (by decide) ?_
            refine lv_goto (tgt := 29) hx hb dX5_literal_25 (by decide) ?_
            exact jn457 1 _ _ ls (b_wid2 bc_1 (by decide) (by decide)) (lv_sub hl [0, 1, 3] rfl) hw hS
  exact lp432 _ hp0 0 0 _ _ ls (lp_in _) ok0 (Fr.rf) (b_wid2 bc_0 (by decide) (by decide)) (b_wid2 bc_0 (by decide) (by decide)) (lv_sub hl [2, 3, 1, 0] rfl) hw hS
