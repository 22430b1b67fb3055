set_option maxRecDepth 100000 in
set_option maxHeartbeats 4000000 in
theorem cX6_pick_6 (l : Launch) (G : va_G) (cy : Nat → ClassId) (ev : Ew) (K ln : Nat → Nat) (Ls : List Nat) (hW : SW K ln Ls) (sz : Nat) (hp0 : Nat → Nat → Value) (ok0 : Ok K hp0) (qa900 : Nat) (zi901 : Int32) (zi902 : Int32) (wl903 : Int64) (kd900 : K qa900 = 7) (bd901 : ((1 : Int) ≤ zi901.toInt ∧ zi901.toInt ≤ 7)) : Met l yX6_pick (WS yX6_pick cX6_pick 9 (some .int)) { frames := 7, cells := 0, slots := 0, locals := 190 } (PB2 [.ref qa900, .int zi901, .int zi902, .long wl903] sz G cy ev (va_pl Ls (cellOf cy K ln hp0))) (QBi (S := (Nat → Nat → Value)) (fun (r : Int32) (u : (Nat → Nat → Value)) => Ok K u ∧ Fr [] K hp0 u) G (fun u => va_pl Ls (cellOf cy K ln u)) (va_A (va_pl Ls (cellOf cy K ln hp0)) sz)) 0 0 (va_A (va_pl Ls (cellOf cy K ln hp0)) sz) := by
  refine met_of2 (y := yX6_pick) (L := 9) (av := [.ref qa900, .int zi901, .int zi902, .long wl903]) (Qc := fun A => QBi (S := (Nat → Nat → Value)) (fun (r : Int32) (u : (Nat → Nat → Value)) => Ok K u ∧ Fr [] K hp0 u) G (fun u => va_pl Ls (cellOf cy K ln u)) A) (plainFor_of_name (by decide)) (Nat.le_of_ble_eq_true rfl) ?_
  intro p e s m below meth c hsz hx hb hr hml hown hT hlocks hin hK A hA hE hw hS ls hl
  have hw : PW G cy K ln Ls A hp0 s.heap := hw
  have hown : s.vm.findClass "LieClock$Sets" = some m.cls := hown
  have hl : lv_has ls 9 [(0, .ref qa900), (1, .int zi901), (2, .int zi902), (3, .long wl903)] := hl
  obtain ⟨Q, hQ⟩ : ∃ Q : State → Prop, Q = MQ below (QBi (S := (Nat → Nat → Value)) (fun (r : Int32) (u : (Nat → Nat → Value)) => Ok K u ∧ Fr [] K hp0 u) G (fun u => va_pl Ls (cellOf cy K ln u)) A) ([.ref qa900, .int zi901, .int zi902, .long wl903] : List Value).toArray s 0 0 A := ⟨_, rfl⟩
  rw [← hQ]
  refine lv_iload_n hx hb dX6_pick_0 rfl (lv_at hl 1 rfl) ?_
  refine lv_iconst (v := 1) hx hb dX6_pick_1 (by decide) ?_
  refine lv_isub hx hb dX6_pick_2 (lv_topi (fun zi1 ea2 => ?_))
  have bd3 : (0 : Int) ≤ zi1.toInt ∧ zi1.toInt ≤ 6 := b_isub ea2 bd901 bc_1 (by decide) (by decide) (by decide) (by decide)
  have qe4 : zi1.toInt = (zi901 : Int32).toInt - (1 : Int32).toInt := e_isub ea2 bd901 bc_1 (by decide) (by decide)
  have qe5 : zi1.toInt = zi901.toInt - 1 := by have ha : (1 : Int32).toInt = 1 := (by decide); rw [ha] at qe4; exact qe4
  refine lv_istore (lv' := [(5, .int zi1), (0, .ref qa900), (1, .int zi901), (2, .int zi902), (3, .long wl903)]) hx hb dX6_pick_3 hl (by decide) rfl (fun ls hl => ?_)
  have lp613 : ∀ (n611 : Nat) (zi439 : Int32) (H : Heap) (locs : List Loc) (ls : Array Slot), 16 - zi439.toInt < (n611 : Int) → ((0 : Int) ≤ zi439.toInt ∧ zi439.toInt ≤ 16) → lv_has ls 9 [(0, .ref qa900), (1, .int zi901), (2, .int zi902), (3, .long wl903), (5, .int zi439)] → PW G cy K ln Ls A hp0 H → va_S A s.heap H locs → W p l e ({ frames := 7, cells := 0, slots := 0, locals := 190 } : Room) s m ([.ref qa900, .int zi901, .int zi902, .long wl903] : List Value).toArray below meth c H locs 0 0 Q (F0 m 5 ls []) := by
    intro n611
    induction n611 with
    | zero =>
      intro zi439 H locs ls hm614 bd440 hl hw hS
      exact absurd hm614 (by have := bd440; omega)
    | succ n611 ih612 =>
      intro zi439 H locs ls hm614 bd440 hl hw hS
      refine lv_iload hx hb dX6_pick_5 (lv_at hl 4 rfl) ?_
      refine lv_if_lt (tgt := 114) hx hb dX6_pick_7 (by decide) (fun c => absurd c (d_nlt bd440 bc_0 (by decide))) (fun _ => ?_)
      refine lv_iload hx hb dX6_pick_10 (lv_at hl 4 rfl) ?_
      refine lv_iload_n hx hb dX6_pick_12 rfl (lv_at hl 2 rfl) ?_
      refine lv_icmp_ge (tgt := 114) hx hb dX6_pick_13 (by decide) (fun cn615 => ?_) (fun cn615 => ?_)
      · skip
        have bd616 : (-2147483648 : Int) ≤ zi902.toInt ∧ zi902.toInt ≤ 16 := r_le_x cn615 (b_all zi902) bd440 (by decide) (by decide)
        refine lv_iconst (v := 0) hx hb dX6_pick_114 (by decide) ?_
        rw [hQ]
        exact kz_i hx hb hr hlocks hS rfl hp0 hw ⟨ok0, (Fr.rf)⟩ (Nat.le_of_ble_eq_true rfl) (Nat.le_of_ble_eq_true rfl) dX6_pick_115
      · skip
        have bd617 : (1 : Int) ≤ zi902.toInt ∧ zi902.toInt ≤ 2147483647 := r_lt_y (Int32.not_le.mp cn615) bd440 (b_all zi902) (by decide) (by decide)
        refine lv_iload hx hb dX6_pick_16 (lv_at hl 4 rfl) ?_
        refine lv_aload_n hx hb dX6_pick_18 rfl (lv_at hl 0 rfl) ?_
        obtain ⟨zi619, eq618, bd620⟩ := rd_7003 ok0 kd900
        refine p_get (ci := 6) (v := .int zi619) (C := RX6) (T := TX6) (N := 6) hx hb hT iw_X6 hown hK hw hW kd900 (by decide) rfl rfl 3 (by decide) eq618 (hT _ tb_531) (fun _ h9 => h9) dX6_pick_19 ?_
        refine lv_icmp_ge (tgt := 114) hx hb dX6_pick_22 (by decide) (fun cn621 => ?_) (fun cn621 => ?_)
        · skip
          refine lv_iconst (v := 0) hx hb dX6_pick_114 (by decide) ?_
          rw [hQ]
          exact kz_i hx hb hr hlocks hS rfl hp0 hw ⟨ok0, (Fr.rf)⟩ (Nat.le_of_ble_eq_true rfl) (Nat.le_of_ble_eq_true rfl) dX6_pick_115
        · skip
          have bd622 : (0 : Int) ≤ zi439.toInt ∧ zi439.toInt ≤ 15 := r_lt_x (Int32.not_le.mp cn621) bd440 bd620 (by decide) (by decide)
          have bd623 : (1 : Int) ≤ zi619.toInt ∧ zi619.toInt ≤ 16 := r_lt_y (Int32.not_le.mp cn621) bd440 bd620 (by decide) (by decide)
          refine lv_lload_n hx hb dX6_pick_25 rfl (lv_at hl 3 rfl) ?_
          refine lv_aload_n hx hb dX6_pick_26 rfl (lv_at hl 0 rfl) ?_
          obtain ⟨qa625, eq624, kd626⟩ := rd_7000 ok0 kd900
          refine p_get (ci := 6) (v := .ref qa625) (C := RX6) (T := TX6) (N := 6) hx hb hT iw_X6 hown hK hw hW kd900 (by decide) rfl rfl 0 (by decide) eq624 (hT _ tb_528) (fun _ h9 => h9) dX6_pick_27 ?_
          refine lv_iload hx hb dX6_pick_30 (lv_at hl 4 rfl) ?_
          obtain ⟨wl628, eq627⟩ := rd_37000 ok0 kd626 ((zi439 : Int32).toNatClampNeg)
          refine p_lald (v := wl628) hx hb hK hw hW kd626 (by decide) rfl (hW.len kd626 (n := 16) rfl (by decide)) (vp_b bd622 (by decide) (by decide)) eq627 dX6_pick_32 ?_
          refine lv_land hx hb dX6_pick_33 (lv_topl (fun wl629 _ => ?_))
          refine lv_lstore (lv' := [(6, .long wl629), (0, .ref qa900), (1, .int zi901), (2, .int zi902), (3, .long wl903), (5, .int zi439)]) hx hb dX6_pick_34 hl (by decide) rfl (fun ls hl => ?_)
          refine lv_iload_n hx hb dX6_pick_36 rfl (lv_at hl 2 rfl) ?_
          refine lv_iconst (v := 1) hx hb dX6_pick_37 (by decide) ?_
          refine lv_icmp_ne (tgt := 60) hx hb dX6_pick_38 (by decide) (fun cn630 => ?_) (fun cn630 => ?_)
          · skip
            have bd631 : (2 : Int) ≤ zi901.toInt ∧ zi901.toInt ≤ 7 := r_ne_lo cn630 bd901 (toi bc_1) (by decide) (by decide)
            refine lv_aload_n hx hb dX6_pick_60 rfl (lv_at hl 1 rfl) ?_
            refine lv_lload hx hb dX6_pick_61 (lv_at hl 0 rfl) ?_
            refine lv_aload_n hx hb dX6_pick_63 rfl (lv_at hl 1 rfl) ?_
            obtain ⟨qa633, eq632, kd634⟩ := rd_7002 ok0 kd900
            refine p_get (ci := 6) (v := .ref qa633) (C := RX6) (T := TX6) (N := 6) hx hb hT iw_X6 hown hK hw hW kd900 (by decide) rfl rfl 2 (by decide) eq632 (hT _ tb_530) (fun _ h9 => h9) dX6_pick_64 ?_
            refine lv_iload hx hb dX6_pick_67 (lv_at hl 5 rfl) ?_
            obtain ⟨wl636, eq635⟩ := rd_39000 ok0 kd634 ((zi439 : Int32).toNatClampNeg)
            refine p_lald (v := wl636) hx hb hK hw hW kd634 (by decide) rfl (hW.len kd634 (n := 17) rfl (by decide)) (vp_b bd622 (by decide) (by decide)) eq635 dX6_pick_69 ?_
            refine lv_land hx hb dX6_pick_70 (lv_topl (fun wl637 _ => ?_))
            refine kq_i hw hS hA (va_runV (As := [.long wl637]) (rest := []) ⟨hx, hb, hml, hown, hT⟩ (cX6_isEnough_0 l G cy ev K ln Ls hW _ hp0 ok0 qa900 wl637 kd900) (cwV 1 hT (good_V tb_1272 tb_1269 tb_1271 tb_43 tb_118) rfl rfl rfl (by decide +kernel) ⟨Nat.le_of_ble_eq_true rfl, Nat.le_of_ble_eq_true rfl⟩) (pool_preV (ci := 6) hK hE hS hA hw hW kd900 (by decide) rfl) rfl rfl hl.1 rfl (lv_room (Nat.le_of_ble_eq_true rfl)) dX6_pick_71 ⟨Nat.le_of_ble_eq_true rfl, Nat.le_of_ble_eq_true rfl⟩) (fun zi642 hp638 H locs hq641 hw hS => ?_)
            obtain ⟨ok639, F640, bd643⟩ := hq641
            obtain rfl : hp0 = hp638 := (Fr.nil F640).symm
            have hw : PW G cy K ln Ls A hp0 H := hw
            refine lv_if_eq (tgt := 108) hx hb dX6_pick_74 (by decide) (fun cn644 => ?_) (fun cn644 => ?_)
            · skip
              have bd645 : (0 : Int) ≤ zi642.toInt ∧ zi642.toInt ≤ 0 := r_eq_x cn644 bd643 bc_0 (by decide) (by decide)
              obtain ⟨zi646, ea647⟩ : ∃ z : Int32, z = zi439 + 1 := ⟨_, rfl⟩
              have bd648 : (1 : Int) ≤ zi646.toInt ∧ zi646.toInt ≤ 16 := b_iadd ea647 bd622 bc_1 (by decide) (by decide) (by decide) (by decide)
              have qe649 : zi646.toInt = (zi439 : Int32).toInt + (1 : Int32).toInt := e_iadd ea647 bd622 bc_1 (by decide) (by decide)
              have qe650 : zi646.toInt = zi439.toInt + 1 := by have ha : (1 : Int32).toInt = 1 := (by decide); rw [ha] at qe649; exact qe649
              refine lv_iinc (v := zi646) (lv' := [(5, .int zi646), (6, .long wl629), (0, .ref qa900), (1, .int zi901), (2, .int zi902), (3, .long wl903)]) hx hb dX6_pick_108 hl (k := 5) rfl ea647.symm (by decide) rfl (fun ls hl => ?_)
              refine lv_goto (tgt := 5) hx hb dX6_pick_111 (by decide) ?_
              exact ih612 zi646 _ _ ls (by have := hm614; have := qe650; omega) (b_wid2 bd648 (by decide) (by decide)) (lv_sub hl [2, 3, 4, 5, 0] rfl) hw hS
            · skip
              have bd651 : (1 : Int) ≤ zi642.toInt ∧ zi642.toInt ≤ 1 := r_ne_lo cn644 bd643 (toi bc_0) (by decide) (by decide)
              refine lv_aload_n hx hb dX6_pick_77 rfl (lv_at hl 1 rfl) ?_
              refine lv_iload_n hx hb dX6_pick_78 rfl (lv_at hl 2 rfl) ?_
              refine lv_iconst (v := 1) hx hb dX6_pick_79 (by decide) ?_
              refine lv_isub hx hb dX6_pick_80 (lv_topi (fun zi652 ea653 => ?_))
              have bd654 : (1 : Int) ≤ zi652.toInt ∧ zi652.toInt ≤ 6 := b_isub ea653 bd631 bc_1 (by decide) (by decide) (by decide) (by decide)
              have qe655 : zi652.toInt = (zi901 : Int32).toInt - (1 : Int32).toInt := e_isub ea653 bd631 bc_1 (by decide) (by decide)
              have qe656 : zi652.toInt = zi901.toInt - 1 := by have ha : (1 : Int32).toInt = 1 := (by decide); rw [ha] at qe655; exact qe655
              refine lv_iload hx hb dX6_pick_81 (lv_at hl 5 rfl) ?_
              refine lv_lload hx hb dX6_pick_83 (lv_at hl 0 rfl) ?_
              refine kq_i hw hS hA (va_runV (As := [.int zi652, .int zi439, .long wl629]) (rest := []) ⟨hx, hb, hml, hown, hT⟩ (cX6_pick_5 l G cy ev K ln Ls hW _ hp0 ok0 qa900 zi652 zi439 wl629 kd900 (b_wid2 bd654 (by decide) (by decide))) (cwV 3 hT (good_V tb_1277 tb_1274 tb_1276 tb_44 tb_118) rfl rfl rfl (by decide +kernel) ⟨Nat.le_of_ble_eq_true rfl, Nat.le_of_ble_eq_true rfl⟩) (pool_preV (ci := 6) hK hE hS hA hw hW kd900 (by decide) rfl) rfl rfl hl.1 rfl (lv_room (Nat.le_of_ble_eq_true rfl)) dX6_pick_85 ⟨Nat.le_of_ble_eq_true rfl, Nat.le_of_ble_eq_true rfl⟩) (fun zi661 hp657 H locs hq660 hw hS => ?_)
              obtain ⟨ok658, F659⟩ := hq660
              obtain rfl : hp0 = hp657 := (Fr.nil F659).symm
              have hw : PW G cy K ln Ls A hp0 H := hw
              refine lv_istore (lv' := [(8, .int zi661), (6, .long wl629), (0, .ref qa900), (1, .int zi901), (2, .int zi902), (3, .long wl903), (5, .int zi439)]) hx hb dX6_pick_88 hl (by decide) rfl (fun ls hl => ?_)
              refine lv_iload hx hb dX6_pick_90 (lv_at hl 0 rfl) ?_
              refine lv_if_eq (tgt := 108) hx hb dX6_pick_92 (by decide) (fun cn662 => ?_) (fun cn662 => ?_)
              · skip
                have bd663 : (0 : Int) ≤ zi661.toInt ∧ zi661.toInt ≤ 0 := r_eq_x cn662 (b_all zi661) bc_0 (by decide) (by decide)
                obtain ⟨zi664, ea665⟩ : ∃ z : Int32, z = zi439 + 1 := ⟨_, rfl⟩
                have bd666 : (1 : Int) ≤ zi664.toInt ∧ zi664.toInt ≤ 16 := b_iadd ea665 bd622 bc_1 (by decide) (by decide) (by decide) (by decide)
                have qe667 : zi664.toInt = (zi439 : Int32).toInt + (1 : Int32).toInt := e_iadd ea665 bd622 bc_1 (by decide) (by decide)
                have qe668 : zi664.toInt = zi439.toInt + 1 := by have ha : (1 : Int32).toInt = 1 := (by decide); rw [ha] at qe667; exact qe667
                refine lv_iinc (v := zi664) (lv' := [(5, .int zi664), (8, .int zi661), (6, .long wl629), (0, .ref qa900), (1, .int zi901), (2, .int zi902), (3, .long wl903)]) hx hb dX6_pick_108 hl (k := 6) rfl ea665.symm (by decide) rfl (fun ls hl => ?_)
                refine lv_goto (tgt := 5) hx hb dX6_pick_111 (by decide) ?_
                exact ih612 zi664 _ _ ls (by have := hm614; have := qe668; omega) (b_wid2 bd666 (by decide) (by decide)) (lv_sub hl [3, 4, 5, 6, 0] rfl) hw hS
              · skip
                refine lv_iload hx hb dX6_pick_95 (lv_at hl 0 rfl) ?_
                refine lv_iconst (v := 1) hx hb dX6_pick_97 (by decide) ?_
                refine lv_aload_n hx hb dX6_pick_98 rfl (lv_at hl 2 rfl) ?_
                obtain ⟨qa670, eq669, kd671⟩ := rd_7001 ok0 kd900
                refine p_get (ci := 6) (v := .ref qa670) (C := RX6) (T := TX6) (N := 6) hx hb hT iw_X6 hown hK hw hW kd900 (by decide) rfl rfl 1 (by decide) eq669 (hT _ tb_529) (fun _ h9 => h9) dX6_pick_99 ?_
                refine lv_iload hx hb dX6_pick_102 (lv_at hl 6 rfl) ?_
                obtain ⟨zi673, eq672⟩ := rd_38000 ok0 kd671 ((zi439 : Int32).toNatClampNeg)
                refine p_iald (v := zi673) hx hb hK hw hW kd671 (by decide) rfl (hW.len kd671 (n := 16) rfl (by decide)) (vp_b bd622 (by decide) (by decide)) eq672 dX6_pick_104 ?_
                refine lv_ishl hx hb dX6_pick_105 (lv_topi (fun zi674 ea675 => ?_))
                refine lv_ior hx hb dX6_pick_106 (lv_topi (fun zi676 ea677 => ?_))
                rw [hQ]
                exact kz_i hx hb hr hlocks hS rfl hp0 hw ⟨ok0, (Fr.rf)⟩ (Nat.le_of_ble_eq_true rfl) (Nat.le_of_ble_eq_true rfl) dX6_pick_107
          · skip
            have bd678 : (1 : Int) ≤ zi901.toInt ∧ zi901.toInt ≤ 1 := r_eq_x cn630 bd901 bc_1 (by decide) (by decide)
            refine lv_aload_n hx hb dX6_pick_41 rfl (lv_at hl 1 rfl) ?_
            refine lv_lload hx hb dX6_pick_42 (lv_at hl 0 rfl) ?_
            refine kq_i hw hS hA (va_runV (As := [.long wl629]) (rest := []) ⟨hx, hb, hml, hown, hT⟩ (cX6_isEnough_0 l G cy ev K ln Ls hW _ hp0 ok0 qa900 wl629 kd900) (cwV 1 hT (good_V tb_1272 tb_1269 tb_1271 tb_43 tb_118) rfl rfl rfl (by decide +kernel) ⟨Nat.le_of_ble_eq_true rfl, Nat.le_of_ble_eq_true rfl⟩) (pool_preV (ci := 6) hK hE hS hA hw hW kd900 (by decide) rfl) rfl rfl hl.1 rfl (lv_room (Nat.le_of_ble_eq_true rfl)) dX6_pick_44 ⟨Nat.le_of_ble_eq_true rfl, Nat.le_of_ble_eq_true rfl⟩) (fun zi683 hp679 H locs hq682 hw hS => ?_)
            obtain ⟨ok680, F681, bd684⟩ := hq682
            obtain rfl : hp0 = hp679 := (Fr.nil F681).symm
            have hw : PW G cy K ln Ls A hp0 H := hw
            refine lv_if_eq (tgt := 108) hx hb dX6_pick_47 (by decide) (fun cn685 => ?_) (fun cn685 => ?_)
            · skip
              have bd686 : (0 : Int) ≤ zi683.toInt ∧ zi683.toInt ≤ 0 := r_eq_x cn685 bd684 bc_0 (by decide) (by decide)
              obtain ⟨zi687, ea688⟩ : ∃ z : Int32, z = zi439 + 1 := ⟨_, rfl⟩
              have bd689 : (1 : Int) ≤ zi687.toInt ∧ zi687.toInt ≤ 16 := b_iadd ea688 bd622 bc_1 (by decide) (by decide) (by decide) (by decide)
              have qe690 : zi687.toInt = (zi439 : Int32).toInt + (1 : Int32).toInt := e_iadd ea688 bd622 bc_1 (by decide) (by decide)
              have qe691 : zi687.toInt = zi439.toInt + 1 := by have ha : (1 : Int32).toInt = 1 := (by decide); rw [ha] at qe690; exact qe690
              refine lv_iinc (v := zi687) (lv' := [(5, .int zi687), (6, .long wl629), (0, .ref qa900), (1, .int zi901), (2, .int zi902), (3, .long wl903)]) hx hb dX6_pick_108 hl (k := 5) rfl ea688.symm (by decide) rfl (fun ls hl => ?_)
              refine lv_goto (tgt := 5) hx hb dX6_pick_111 (by decide) ?_
              exact ih612 zi687 _ _ ls (by have := hm614; have := qe691; omega) (b_wid2 bd689 (by decide) (by decide)) (lv_sub hl [2, 3, 4, 5, 0] rfl) hw hS
            · skip
              have bd692 : (1 : Int) ≤ zi683.toInt ∧ zi683.toInt ≤ 1 := r_ne_lo cn685 bd684 (toi bc_0) (by decide) (by decide)
              refine lv_iconst (v := 1) hx hb dX6_pick_50 (by decide) ?_
              refine lv_aload_n hx hb dX6_pick_51 rfl (lv_at hl 1 rfl) ?_
              obtain ⟨qa694, eq693, kd695⟩ := rd_7001 ok0 kd900
              refine p_get (ci := 6) (v := .ref qa694) (C := RX6) (T := TX6) (N := 6) hx hb hT iw_X6 hown hK hw hW kd900 (by decide) rfl rfl 1 (by decide) eq693 (hT _ tb_529) (fun _ h9 => h9) dX6_pick_52 ?_
              refine lv_iload hx hb dX6_pick_55 (lv_at hl 5 rfl) ?_
              obtain ⟨zi697, eq696⟩ := rd_38000 ok0 kd695 ((zi439 : Int32).toNatClampNeg)
              refine p_iald (v := zi697) hx hb hK hw hW kd695 (by decide) rfl (hW.len kd695 (n := 16) rfl (by decide)) (vp_b bd622 (by decide) (by decide)) eq696 dX6_pick_57 ?_
              refine lv_ishl hx hb dX6_pick_58 (lv_topi (fun zi698 ea699 => ?_))
              rw [hQ]
              exact kz_i hx hb hr hlocks hS rfl hp0 hw ⟨ok0, (Fr.rf)⟩ (Nat.le_of_ble_eq_true rfl) (Nat.le_of_ble_eq_true rfl) dX6_pick_59
  exact lp613 _ zi1 _ _ ls (lp_in _) (b_wid2 bd3 (by decide) (by decide)) (lv_sub hl [1, 2, 3, 4, 0] rfl) hw hS

set_option maxRecDepth 100000 in
set_option maxHeartbeats 4000000 in
theorem cX6_pick_7 (l : Launch) (G : va_G) (cy : Nat → ClassId) (ev : Ew) (K ln : Nat → Nat) (Ls : List Nat) (hW : SW K ln Ls) (sz : Nat) (hp0 : Nat → Nat → Value) (ok0 : Ok K hp0) (qa900 : Nat) (zi901 : Int32) (zi902 : Int32) (wl903 : Int64) (kd900 : K qa900 = 7) (bd901 : ((1 : Int) ≤ zi901.toInt ∧ zi901.toInt ≤ 8)) : Met l yX6_pick (WS yX6_pick cX6_pick 9 (some .int)) { frames := 8, cells := 0, slots := 0, locals := 218 } (PB2 [.ref qa900, .int zi901, .int zi902, .long wl903] sz G cy ev (va_pl Ls (cellOf cy K ln hp0))) (QBi (S := (Nat → Nat → Value)) (fun (r : Int32) (u : (Nat → Nat → Value)) => Ok K u ∧ Fr [] K hp0 u) G (fun u => va_pl Ls (cellOf cy K ln u)) (va_A (va_pl Ls (cellOf cy K ln hp0)) sz)) 0 0 (va_A (va_pl Ls (cellOf cy K ln hp0)) sz) := by
  refine met_of2 (y := yX6_pick) (L := 9) (av := [.ref qa900, .int zi901, .int zi902, .long wl903]) (Qc := fun A => QBi (S := (Nat → Nat → Value)) (fun (r : Int32) (u : (Nat → Nat → Value)) => Ok K u ∧ Fr [] K hp0 u) G (fun u => va_pl Ls (cellOf cy K ln u)) A) (plainFor_of_name (by decide)) (Nat.le_of_ble_eq_true rfl) ?_
  intro p e s m below meth c hsz hx hb hr hml hown hT hlocks hin hK A hA hE hw hS ls hl
  have hw : PW G cy K ln Ls A hp0 s.heap := hw
  have hown : s.vm.findClass "LieClock$Sets" = some m.cls := hown
  have hl : lv_has ls 9 [(0, .ref qa900), (1, .int zi901), (2, .int zi902), (3, .long wl903)] := hl
  obtain ⟨Q, hQ⟩ : ∃ Q : State → Prop, Q = MQ below (QBi (S := (Nat → Nat → Value)) (fun (r : Int32) (u : (Nat → Nat → Value)) => Ok K u ∧ Fr [] K hp0 u) G (fun u => va_pl Ls (cellOf cy K ln u)) A) ([.ref qa900, .int zi901, .int zi902, .long wl903] : List Value).toArray s 0 0 A := ⟨_, rfl⟩
  rw [← hQ]
  refine lv_iload_n hx hb dX6_pick_0 rfl (lv_at hl 1 rfl) ?_
  refine lv_iconst (v := 1) hx hb dX6_pick_1 (by decide) ?_
  refine lv_isub hx hb dX6_pick_2 (lv_topi (fun zi1 ea2 => ?_))
  have bd3 : (0 : Int) ≤ zi1.toInt ∧ zi1.toInt ≤ 7 := b_isub ea2 bd901 bc_1 (by decide) (by decide) (by decide) (by decide)
  have qe4 : zi1.toInt = (zi901 : Int32).toInt - (1 : Int32).toInt := e_isub ea2 bd901 bc_1 (by decide) (by decide)
  have qe5 : zi1.toInt = zi901.toInt - 1 := by have ha : (1 : Int32).toInt = 1 := (by decide); rw [ha] at qe4; exact qe4
  refine lv_istore (lv' := [(5, .int zi1), (0, .ref qa900), (1, .int zi901), (2, .int zi902), (3, .long wl903)]) hx hb dX6_pick_3 hl (by decide) rfl (fun ls hl => ?_)
  have lp613 : ∀ (n611 : Nat) (zi439 : Int32) (H : Heap) (locs : List Loc) (ls : Array Slot), 16 - zi439.toInt < (n611 : Int) → ((0 : Int) ≤ zi439.toInt ∧ zi439.toInt ≤ 16) → lv_has ls 9 [(0, .ref qa900), (1, .int zi901), (2, .int zi902), (3, .long wl903), (5, .int zi439)] → PW G cy K ln Ls A hp0 H → va_S A s.heap H locs → W p l e ({ frames := 8, cells := 0, slots := 0, locals := 218 } : Room) s m ([.ref qa900, .int zi901, .int zi902, .long wl903] : List Value).toArray below meth c H locs 0 0 Q (F0 m 5 ls []) := by
    intro n611
    induction n611 with
    | zero =>
      intro zi439 H locs ls hm614 bd440 hl hw hS
      exact absurd hm614 (by have := bd440; omega)
    | succ n611 ih612 =>
      intro zi439 H locs ls hm614 bd440 hl hw hS
      refine lv_iload hx hb dX6_pick_5 (lv_at hl 4 rfl) ?_
      refine lv_if_lt (tgt := 114) hx hb dX6_pick_7 (by decide) (fun c => absurd c (d_nlt bd440 bc_0 (by decide))) (fun _ => ?_)
      refine lv_iload hx hb dX6_pick_10 (lv_at hl 4 rfl) ?_
      refine lv_iload_n hx hb dX6_pick_12 rfl (lv_at hl 2 rfl) ?_
      refine lv_icmp_ge (tgt := 114) hx hb dX6_pick_13 (by decide) (fun cn615 => ?_) (fun cn615 => ?_)
      · skip
        have bd616 : (-2147483648 : Int) ≤ zi902.toInt ∧ zi902.toInt ≤ 16 := r_le_x cn615 (b_all zi902) bd440 (by decide) (by decide)
        refine lv_iconst (v := 0) hx hb dX6_pick_114 (by decide) ?_
        rw [hQ]
        exact kz_i hx hb hr hlocks hS rfl hp0 hw ⟨ok0, (Fr.rf)⟩ (Nat.le_of_ble_eq_true rfl) (Nat.le_of_ble_eq_true rfl) dX6_pick_115
      · skip
        have bd617 : (1 : Int) ≤ zi902.toInt ∧ zi902.toInt ≤ 2147483647 := r_lt_y (Int32.not_le.mp cn615) bd440 (b_all zi902) (by decide) (by decide)
        refine lv_iload hx hb dX6_pick_16 (lv_at hl 4 rfl) ?_
        refine lv_aload_n hx hb dX6_pick_18 rfl (lv_at hl 0 rfl) ?_
        obtain ⟨zi619, eq618, bd620⟩ := rd_7003 ok0 kd900
        refine p_get (ci := 6) (v := .int zi619) (C := RX6) (T := TX6) (N := 6) hx hb hT iw_X6 hown hK hw hW kd900 (by decide) rfl rfl 3 (by decide) eq618 (hT _ tb_531) (fun _ h9 => h9) dX6_pick_19 ?_
        refine lv_icmp_ge (tgt := 114) hx hb dX6_pick_22 (by decide) (fun cn621 => ?_) (fun cn621 => ?_)
        · skip
          refine lv_iconst (v := 0) hx hb dX6_pick_114 (by decide) ?_
          rw [hQ]
          exact kz_i hx hb hr hlocks hS rfl hp0 hw ⟨ok0, (Fr.rf)⟩ (Nat.le_of_ble_eq_true rfl) (Nat.le_of_ble_eq_true rfl) dX6_pick_115
        · skip
          have bd622 : (0 : Int) ≤ zi439.toInt ∧ zi439.toInt ≤ 15 := r_lt_x (Int32.not_le.mp cn621) bd440 bd620 (by decide) (by decide)
          have bd623 : (1 : Int) ≤ zi619.toInt ∧ zi619.toInt ≤ 16 := r_lt_y (Int32.not_le.mp cn621) bd440 bd620 (by decide) (by decide)
          refine lv_lload_n hx hb dX6_pick_25 rfl (lv_at hl 3 rfl) ?_
          refine lv_aload_n hx hb dX6_pick_26 rfl (lv_at hl 0 rfl) ?_
          obtain ⟨qa625, eq624, kd626⟩ := rd_7000 ok0 kd900
          refine p_get (ci := 6) (v := .ref qa625) (C := RX6) (T := TX6) (N := 6) hx hb hT iw_X6 hown hK hw hW kd900 (by decide) rfl rfl 0 (by decide) eq624 (hT _ tb_528) (fun _ h9 => h9) dX6_pick_27 ?_
          refine lv_iload hx hb dX6_pick_30 (lv_at hl 4 rfl) ?_
          obtain ⟨wl628, eq627⟩ := rd_37000 ok0 kd626 ((zi439 : Int32).toNatClampNeg)
          refine p_lald (v := wl628) hx hb hK hw hW kd626 (by decide) rfl (hW.len kd626 (n := 16) rfl (by decide)) (vp_b bd622 (by decide) (by decide)) eq627 dX6_pick_32 ?_
          refine lv_land hx hb dX6_pick_33 (lv_topl (fun wl629 _ => ?_))
          refine lv_lstore (lv' := [(6, .long wl629), (0, .ref qa900), (1, .int zi901), (2, .int zi902), (3, .long wl903), (5, .int zi439)]) hx hb dX6_pick_34 hl (by decide) rfl (fun ls hl => ?_)
          refine lv_iload_n hx hb dX6_pick_36 rfl (lv_at hl 2 rfl) ?_
          refine lv_iconst (v := 1) hx hb dX6_pick_37 (by decide) ?_
          refine lv_icmp_ne (tgt := 60) hx hb dX6_pick_38 (by decide) (fun cn630 => ?_) (fun cn630 => ?_)
          · skip
            have bd631 : (2 : Int) ≤ zi901.toInt ∧ zi901.toInt ≤ 8 := r_ne_lo cn630 bd901 (toi bc_1) (by decide) (by decide)
            refine lv_aload_n hx hb dX6_pick_60 rfl (lv_at hl 1 rfl) ?_
            refine lv_lload hx hb dX6_pick_61 (lv_at hl 0 rfl) ?_
            refine lv_aload_n hx hb dX6_pick_63 rfl (lv_at hl 1 rfl) ?_
            obtain ⟨qa633, eq632, kd634⟩ := rd_7002 ok0 kd900
            refine p_get (ci := 6) (v := .ref qa633) (C := RX6) (T := TX6) (N := 6) hx hb hT iw_X6 hown hK hw hW kd900 (by decide) rfl rfl 2 (by decide) eq632 (hT _ tb_530) (fun _ h9 => h9) dX6_pick_64 ?_
            refine lv_iload hx hb dX6_pick_67 (lv_at hl 5 rfl) ?_
            obtain ⟨wl636, eq635⟩ := rd_39000 ok0 kd634 ((zi439 : Int32).toNatClampNeg)
            refine p_lald (v := wl636) hx hb hK hw hW kd634 (by decide) rfl (hW.len kd634 (n := 17) rfl (by decide)) (vp_b bd622 (by decide) (by decide)) eq635 dX6_pick_69 ?_
            refine lv_land hx hb dX6_pick_70 (lv_topl (fun wl637 _ => ?_))
            refine kq_i hw hS hA (va_runV (As := [.long wl637]) (rest := []) ⟨hx, hb, hml, hown, hT⟩ (cX6_isEnough_0 l G cy ev K ln Ls hW _ hp0 ok0 qa900 wl637 kd900) (cwV 1 hT (good_V tb_1272 tb_1269 tb_1271 tb_43 tb_118) rfl rfl rfl (by decide +kernel) ⟨Nat.le_of_ble_eq_true rfl, Nat.le_of_ble_eq_true rfl⟩) (pool_preV (ci := 6) hK hE hS hA hw hW kd900 (by decide) rfl) rfl rfl hl.1 rfl (lv_room (Nat.le_of_ble_eq_true rfl)) dX6_pick_71 ⟨Nat.le_of_ble_eq_true rfl, Nat.le_of_ble_eq_true rfl⟩) (fun zi642 hp638 H locs hq641 hw hS => ?_)
            obtain ⟨ok639, F640, bd643⟩ := hq641
            obtain rfl : hp0 = hp638 := (Fr.nil F640).symm
            have hw : PW G cy K ln Ls A hp0 H := hw
            refine lv_if_eq (tgt := 108) hx hb dX6_pick_74 (by decide) (fun cn644 => ?_) (fun cn644 => ?_)
            · skip
              have bd645 : (0 : Int) ≤ zi642.toInt ∧ zi642.toInt ≤ 0 := r_eq_x cn644 bd643 bc_0 (by decide) (by decide)
              obtain ⟨zi646, ea647⟩ : ∃ z : Int32, z = zi439 + 1 := ⟨_, rfl⟩
              have bd648 : (1 : Int) ≤ zi646.toInt ∧ zi646.toInt ≤ 16 := b_iadd ea647 bd622 bc_1 (by decide) (by decide) (by decide) (by decide)
              have qe649 : zi646.toInt = (zi439 : Int32).toInt + (1 : Int32).toInt := e_iadd ea647 bd622 bc_1 (by decide) (by decide)
              have qe650 : zi646.toInt = zi439.toInt + 1 := by have ha : (1 : Int32).toInt = 1 := (by decide); rw [ha] at qe649; exact qe649
              refine lv_iinc (v := zi646) (lv' := [(5, .int zi646), (6, .long wl629), (0, .ref qa900), (1, .int zi901), (2, .int zi902), (3, .long wl903)]) hx hb dX6_pick_108 hl (k := 5) rfl ea647.symm (by decide) rfl (fun ls hl => ?_)
              refine lv_goto (tgt := 5) hx hb dX6_pick_111 (by decide) ?_
              exact ih612 zi646 _ _ ls (by have := hm614; have := qe650; omega) (b_wid2 bd648 (by decide) (by decide)) (lv_sub hl [2, 3, 4, 5, 0] rfl) hw hS
            · skip
              have bd651 : (1 : Int) ≤ zi642.toInt ∧ zi642.toInt ≤ 1 := r_ne_lo cn644 bd643 (toi bc_0) (by decide) (by decide)
              refine lv_aload_n hx hb dX6_pick_77 rfl (lv_at hl 1 rfl) ?_
              refine lv_iload_n hx hb dX6_pick_78 rfl (lv_at hl 2 rfl) ?_
              refine lv_iconst (v := 1) hx hb dX6_pick_79 (by decide) ?_
              refine lv_isub hx hb dX6_pick_80 (lv_topi (fun zi652 ea653 => ?_))
              have bd654 : (1 : Int) ≤ zi652.toInt ∧ zi652.toInt ≤ 7 := b_isub ea653 bd631 bc_1 (by decide) (by decide) (by decide) (by decide)
              have qe655 : zi652.toInt = (zi901 : Int32).toInt - (1 : Int32).toInt := e_isub ea653 bd631 bc_1 (by decide) (by decide)
              have qe656 : zi652.toInt = zi901.toInt - 1 := by have ha : (1 : Int32).toInt = 1 := (by decide); rw [ha] at qe655; exact qe655
              refine lv_iload hx hb dX6_pick_81 (lv_at hl 5 rfl) ?_
              refine lv_lload hx hb dX6_pick_83 (lv_at hl 0 rfl) ?_
              refine kq_i hw hS hA (va_runV (As := [.int zi652, .int zi439, .long wl629]) (rest := []) ⟨hx, hb, hml, hown, hT⟩ (cX6_pick_6 l G cy ev K ln Ls hW _ hp0 ok0 qa900 zi652 zi439 wl629 kd900 (b_wid2 bd654 (by decide) (by decide))) (cwV 3 hT (good_V tb_1277 tb_1274 tb_1276 tb_44 tb_118) rfl rfl rfl (by decide +kernel) ⟨Nat.le_of_ble_eq_true rfl, Nat.le_of_ble_eq_true rfl⟩) (pool_preV (ci := 6) hK hE hS hA hw hW kd900 (by decide) rfl) rfl rfl hl.1 rfl (lv_room (Nat.le_of_ble_eq_true rfl)) dX6_pick_85 ⟨Nat.le_of_ble_eq_true rfl, Nat.le_of_ble_eq_true rfl⟩) (fun zi661 hp657 H locs hq660 hw hS => ?_)
              obtain ⟨ok658, F659⟩ := hq660
              obtain rfl : hp0 = hp657 := (Fr.nil F659).symm
              have hw : PW G cy K ln Ls A hp0 H := hw
              refine lv_istore (lv' := [(8, .int zi661), (6, .long wl629), (0, .ref qa900), (1, .int zi901), (2, .int zi902), (3, .long wl903), (5, .int zi439)]) hx hb dX6_pick_88 hl (by decide) rfl (fun ls hl => ?_)
              refine lv_iload hx hb dX6_pick_90 (lv_at hl 0 rfl) ?_
              refine lv_if_eq (tgt := 108) hx hb dX6_pick_92 (by decide) (fun cn662 => ?_) (fun cn662 => ?_)
              · skip
                have bd663 : (0 : Int) ≤ zi661.toInt ∧ zi661.toInt ≤ 0 := r_eq_x cn662 (b_all zi661) bc_0 (by decide) (by decide)
                obtain ⟨zi664, ea665⟩ : ∃ z : Int32, z = zi439 + 1 := ⟨_, rfl⟩
                have bd666 : (1 : Int) ≤ zi664.toInt ∧ zi664.toInt ≤ 16 := b_iadd ea665 bd622 bc_1 (by decide) (by decide) (by decide) (by decide)
                have qe667 : zi664.toInt = (zi439 : Int32).toInt + (1 : Int32).toInt := e_iadd ea665 bd622 bc_1 (by decide) (by decide)
                have qe668 : zi664.toInt = zi439.toInt + 1 := by have ha : (1 : Int32).toInt = 1 := (by decide); rw [ha] at qe667; exact qe667
                refine lv_iinc (v := zi664) (lv' := [(5, .int zi664), (8, .int zi661), (6, .long wl629), (0, .ref qa900), (1, .int zi901), (2, .int zi902), (3, .long wl903)]) hx hb dX6_pick_108 hl (k := 6) rfl ea665.symm (by decide) rfl (fun ls hl => ?_)
                refine lv_goto (tgt := 5) hx hb dX6_pick_111 (by decide) ?_
                exact ih612 zi664 _ _ ls (by have := hm614; have := qe668; omega) (b_wid2 bd666 (by decide) (by decide)) (lv_sub hl [3, 4, 5, 6, 0] rfl) hw hS
              · skip
                refine lv_iload hx hb dX6_pick_95 (lv_at hl 0 rfl) ?_
                refine lv_iconst (v := 1) hx hb dX6_pick_97 (by decide) ?_
                refine lv_aload_n hx hb dX6_pick_98 rfl (lv_at hl 2 rfl) ?_
                obtain ⟨qa670, eq669, kd671⟩ := rd_7001 ok0 kd900
                refine p_get (ci := 6) (v := .ref qa670) (C := RX6) (T := TX6) (N := 6) hx hb hT iw_X6 hown hK hw hW kd900 (by decide) rfl rfl 1 (by decide) eq669 (hT _ tb_529) (fun _ h9 => h9) dX6_pick_99 ?_
                refine lv_iload hx hb dX6_pick_102 (lv_at hl 6 rfl) ?_
                obtain ⟨zi673, eq672⟩ := rd_38000 ok0 kd671 ((zi439 : Int32).toNatClampNeg)
                refine p_iald (v := zi673) hx hb hK hw hW kd671 (by decide) rfl (hW.len kd671 (n := 16) rfl (by decide)) (vp_b bd622 (by decide) (by decide)) eq672 dX6_pick_104 ?_
                refine lv_ishl hx hb dX6_pick_105 (lv_topi (fun zi674 ea675 => ?_))
                refine lv_ior hx hb dX6_pick_106 (lv_topi (fun zi676 ea677 => ?_))
                rw [hQ]
                exact kz_i hx hb hr hlocks hS rfl hp0 hw ⟨ok0, (Fr.rf)⟩ (Nat.le_of_ble_eq_true rfl) (Nat.le_of_ble_eq_true rfl) dX6_pick_107
          · skip
            have bd678 : (1 : Int) ≤ zi901.toInt ∧ zi901.toInt ≤ 1 := r_eq_x cn630 bd901 bc_1 (by decide) (by decide)
            refine lv_aload_n hx hb dX6_pick_41 rfl (lv_at hl 1 rfl) ?_
            refine lv_lload hx hb dX6_pick_42 (lv_at hl 0 rfl) ?_
            refine kq_i hw hS hA (va_runV (As := [.long wl629]) (rest := []) ⟨hx, hb, hml, hown, hT⟩ (cX6_isEnough_0 l G cy ev K ln Ls hW _ hp0 ok0 qa900 wl629 kd900) (cwV 1 hT (good_V tb_1272 tb_1269 tb_1271 tb_43 tb_118) rfl rfl rfl (by decide +kernel) ⟨Nat.le_of_ble_eq_true rfl, Nat.le_of_ble_eq_true rfl⟩) (pool_preV (ci := 6) hK hE hS hA hw hW kd900 (by decide) rfl) rfl rfl hl.1 rfl (lv_room (Nat.le_of_ble_eq_true rfl)) dX6_pick_44 ⟨Nat.le_of_ble_eq_true rfl, Nat.le_of_ble_eq_true rfl⟩) (fun zi683 hp679 H locs hq682 hw hS => ?_)
            obtain ⟨ok680, F681, bd684⟩ := hq682
            obtain rfl : hp0 = hp679 := (Fr.nil F681).symm
            have hw : PW G cy K ln Ls A hp0 H := hw
            refine lv_if_eq (tgt := 108) hx hb dX6_pick_47 (by decide) (fun cn685 => ?_) (fun cn685 => ?_)
            · skip
              have bd686 : (0 : Int) ≤ zi683.toInt ∧ zi683.toInt ≤ 0 := r_eq_x cn685 bd684 bc_0 (by decide) (by decide)
              obtain ⟨zi687, ea688⟩ : ∃ z : Int32, z = zi439 + 1 := ⟨_, rfl⟩
              have bd689 : (1 : Int) ≤ zi687.toInt ∧ zi687.toInt ≤ 16 := b_iadd ea688 bd622 bc_1 (by decide) (by decide) (by decide) (by decide)
              have qe690 : zi687.toInt = (zi439 : Int32).toInt + (1 : Int32).toInt := e_iadd ea688 bd622 bc_1 (by decide) (by decide)
              have qe691 : zi687.toInt = zi439.toInt + 1 := by have ha : (1 : Int32).toInt = 1 := (by decide); rw [ha] at qe690; exact qe690
              refine lv_iinc (v := zi687) (lv' := [(5, .int zi687), (6, .long wl629), (0, .ref qa900), (1, .int zi901), (2, .int zi902), (3, .long wl903)]) hx hb dX6_pick_108 hl (k := 5) rfl ea688.symm (by decide) rfl (fun ls hl => ?_)
              refine lv_goto (tgt := 5) hx hb dX6_pick_111 (by decide) ?_
              exact ih612 zi687 _ _ ls (by have := hm614; have := qe691; omega) (b_wid2 bd689 (by decide) (by decide)) (lv_sub hl [2, 3, 4, 5, 0] rfl) hw hS
            · skip
              have bd692 : (1 : Int) ≤ zi683.toInt ∧ zi683.toInt ≤ 1 := r_ne_lo cn685 bd684 (toi bc_0) (by decide) (by decide)
              refine lv_iconst (v := 1) hx hb dX6_pick_50 (by decide) ?_
              refine lv_aload_n hx hb dX6_pick_51 rfl (lv_at hl 1 rfl) ?_
              obtain ⟨qa694, eq693, kd695⟩ := rd_7001 ok0 kd900
              refine p_get (ci := 6) (v := .ref qa694) (C := RX6) (T := TX6) (N := 6) hx hb hT iw_X6 hown hK hw hW kd900 (by decide) rfl rfl 1 (by decide) eq693 (hT _ tb_529) (fun _ h9 => h9) dX6_pick_52 ?_
              refine lv_iload hx hb dX6_pick_55 (lv_at hl 5 rfl) ?_
              obtain ⟨zi697, eq696⟩ := rd_38000 ok0 kd695 ((zi439 : Int32).toNatClampNeg)
              refine p_iald (v := zi697) hx hb hK hw hW kd695 (by decide) rfl (hW.len kd695 (n := 16) rfl (by decide)) (vp_b bd622 (by decide) (by decide)) eq696 dX6_pick_57 ?_
              refine lv_ishl hx hb dX6_pick_58 (lv_topi (fun zi698 ea699 => ?_))
              rw [hQ]
              exact kz_i hx hb hr hlocks hS rfl hp0 hw ⟨ok0, (Fr.rf)⟩ (Nat.le_of_ble_eq_true rfl) (Nat.le_of_ble_eq_true rfl) dX6_pick_59
  exact lp613 _ zi1 _ _ ls (lp_in _) (b_wid2 bd3 (by decide) (by decide)) (lv_sub hl [1, 2, 3, 4, 0] rfl) hw hS

set_option maxRecDepth 100000 in
set_option maxHeartbeats 4000000 in
theorem cX6_pick_8 (l : Launch) (G : va_G) (cy : Nat → ClassId) (ev : Ew) (K ln : Nat → Nat) (Ls : List Nat) (hW : SW K ln Ls) (sz : Nat) (hp0 : Nat → Nat → Value) (ok0 : Ok K hp0) (qa900 : Nat) (zi901 : Int32) (zi902 : Int32) (wl903 : Int64) (kd900 : K qa900 = 7) (bd901 : ((1 : Int) ≤ zi901.toInt ∧ zi901.toInt ≤ 9)) : Met l yX6_pick (WS yX6_pick cX6_pick 9 (some .int)) { frames := 9, cells := 0, slots := 0, locals := 246 } (PB2 [.ref qa900, .int zi901, .int zi902, .long wl903] sz G cy ev (va_pl Ls (cellOf cy K ln hp0))) (QBi (S := (Nat → Nat → Value)) (fun (r : Int32) (u : (Nat → Nat → Value)) => Ok K u ∧ Fr [] K hp0 u) G (fun u => va_pl Ls (cellOf cy K ln u)) (va_A (va_pl Ls (cellOf cy K ln hp0)) sz)) 0 0 (va_A (va_pl Ls (cellOf cy K ln hp0)) sz) := by
  refine met_of2 (y := yX6_pick) (L := 9) (av := [.ref qa900, .int zi901, .int zi902, .long wl903]) (Qc := fun A => QBi (S := (Nat → Nat → Value)) (fun (r : Int32) (u : (Nat → Nat → Value)) => Ok K u ∧ Fr [] K hp0 u) G (fun u => va_pl Ls (cellOf cy K ln u)) A) (plainFor_of_name (by decide)) (Nat.le_of_ble_eq_true rfl) ?_
  intro p e s m below meth c hsz hx hb hr hml hown hT hlocks hin hK A hA hE hw hS ls hl
  have hw : PW G cy K ln Ls A hp0 s.heap := hw
  have hown : s.vm.findClass "LieClock$Sets" = some m.cls := hown
  have hl : lv_has ls 9 [(0, .ref qa900), (1, .int zi901), (2, .int zi902), (3, .long wl903)] := hl
  obtain ⟨Q, hQ⟩ : ∃ Q : State → Prop, Q = MQ below (QBi (S := (Nat → Nat → Value)) (fun (r : Int32) (u : (Nat → Nat → Value)) => Ok K u ∧ Fr [] K hp0 u) G (fun u => va_pl Ls (cellOf cy K ln u)) A) ([.ref qa900, .int zi901, .int zi902, .long wl903] : List Value).toArray s 0 0 A := ⟨_, rfl⟩
  rw [← hQ]
  refine lv_iload_n hx hb dX6_pick_0 rfl (lv_at hl 1 rfl) ?_
  refine lv_iconst (v := 1) hx hb dX6_pick_1 (by decide) ?_
  refine lv_isub hx hb dX6_pick_2 (lv_topi (fun zi1 ea2 => ?_))
  have bd3 : (0 : Int) ≤ zi1.toInt ∧ zi1.toInt ≤ 8 := b_isub ea2 bd901 bc_1 (by decide) (by decide) (by decide) (by decide)
  have qe4 : zi1.toInt = (zi901 : Int32).toInt - (1 : Int32).toInt := e_isub ea2 bd901 bc_1 (by decide) (by decide)
  have qe5 : zi1.toInt = zi901.toInt - 1 := by have ha : (1 : Int32).toInt = 1 := (by decide); rw [ha] at qe4; exact qe4
  refine lv_istore (lv' := [(5, .int zi1), (0, .ref qa900), (1, .int zi901), (2, .int zi902), (3, .long wl903)]) hx hb dX6_pick_3 hl (by decide) rfl (fun ls hl => ?_)
  have lp613 : ∀ (n611 : Nat) (zi439 : Int32) (H : Heap) (locs : List Loc) (ls : Array Slot), 16 - zi439.toInt < (n611 : Int) → ((0 : Int) ≤ zi439.toInt ∧ zi439.toInt ≤ 16) → lv_has ls 9 [(0, .ref qa900), (1, .int zi901), (2, .int zi902), (3, .long wl903), (5, .int zi439)] → PW G cy K ln Ls A hp0 H → va_S A s.heap H locs → W p l e ({ frames := 9, cells := 0, slots := 0, locals := 246 } : Room) s m ([.ref qa900, .int zi901, .int zi902, .long wl903] : List Value).toArray below meth c H locs 0 0 Q (F0 m 5 ls []) := by
    intro n611
    induction n611 with
    | zero =>
      intro zi439 H locs ls hm614 bd440 hl hw hS
      exact absurd hm614 (by have := bd440; omega)
    | succ n611 ih612 =>
      intro zi439 H locs ls hm614 bd440 hl hw hS
      refine lv_iload hx hb dX6_pick_5 (lv_at hl 4 rfl) ?_
      refine lv_if_lt (tgt := 114) hx hb dX6_pick_7 (by decide) (fun c => absurd c (d_nlt bd440 bc_0 (by decide))) (fun _ => ?_)
      refine lv_iload hx hb dX6_pick_10 (lv_at hl 4 rfl) ?_
      refine lv_iload_n hx hb dX6_pick_12 rfl (lv_at hl 2 rfl) ?_
      refine lv_icmp_ge (tgt := 114) hx hb dX6_pick_13 (by decide) (fun cn615 => ?_) (fun cn615 => ?_)
      · skip
        have bd616 : (-2147483648 : Int) ≤ zi902.toInt ∧ zi902.toInt ≤ 16 := r_le_x cn615 (b_all zi902) bd440 (by decide) (by decide)
        refine lv_iconst (v := 0) hx hb dX6_pick_114 (by decide) ?_
        rw [hQ]
        exact kz_i hx hb hr hlocks hS rfl hp0 hw ⟨ok0, (Fr.rf)⟩ (Nat.le_of_ble_eq_true rfl) (Nat.le_of_ble_eq_true rfl) dX6_pick_115
      · skip
        have bd617 : (1 : Int) ≤ zi902.toInt ∧ zi902.toInt ≤ 2147483647 := r_lt_y (Int32.not_le.mp cn615) bd440 (b_all zi902) (by decide) (by decide)
        refine lv_iload hx hb dX6_pick_16 (lv_at hl 4 rfl) ?_
        refine lv_aload_n hx hb dX6_pick_18 rfl (lv_at hl 0 rfl) ?_
        obtain ⟨zi619, eq618, bd620⟩ := rd_7003 ok0 kd900
        refine p_get (ci := 6) (v := .int zi619) (C := RX6) (T := TX6) (N := 6) hx hb hT iw_X6 hown hK hw hW kd900 (by decide) rfl rfl 3 (by decide) eq618 (hT _ tb_531) (fun _ h9 => h9) dX6_pick_19 ?_
        refine lv_icmp_ge (tgt := 114) hx hb dX6_pick_22 (by decide) (fun cn621 => ?_) (fun cn621 => ?_)
        · skip
          refine lv_iconst (v := 0) hx hb dX6_pick_114 (by decide) ?_
          rw [hQ]
          exact kz_i hx hb hr hlocks hS rfl hp0 hw ⟨ok0, (Fr.rf)⟩ (Nat.le_of_ble_eq_true rfl) (Nat.le_of_ble_eq_true rfl) dX6_pick_115
        · skip
          have bd622 : (0 : Int) ≤ zi439.toInt ∧ zi439.toInt ≤ 15 := r_lt_x (Int32.not_le.mp cn621) bd440 bd620 (by decide) (by decide)
          have bd623 : (1 : Int) ≤ zi619.toInt ∧ zi619.toInt ≤ 16 := r_lt_y (Int32.not_le.mp cn621) bd440 bd620 (by decide) (by decide)
          refine lv_lload_n hx hb dX6_pick_25 rfl (lv_at hl 3 rfl) ?_
          refine lv_aload_n hx hb dX6_pick_26 rfl (lv_at hl 0 rfl) ?_
          obtain ⟨qa625, eq624, kd626⟩ := rd_7000 ok0 kd900
          refine p_get (ci := 6) (v := .ref qa625) (C := RX6) (T := TX6) (N := 6) hx hb hT iw_X6 hown hK hw hW kd900 (by decide) rfl rfl 0 (by decide) eq624 (hT _ tb_528) (fun _ h9 => h9) dX6_pick_27 ?_
          refine lv_iload hx hb dX6_pick_30 (lv_at hl 4 rfl) ?_
          obtain ⟨wl628, eq627⟩ := rd_37000 ok0 kd626 ((zi439 : Int32).toNatClampNeg)
          refine p_lald (v := wl628) hx hb hK hw hW kd626 (by decide) rfl (hW.len kd626 (n := 16) rfl (by decide)) (vp_b bd622 (by decide) (by decide)) eq627 dX6_pick_32 ?_
          refine lv_land hx hb dX6_pick_33 (lv_topl (fun wl629 _ => ?_))
          refine lv_lstore (lv' := [(6, .long wl629), (0, .ref qa900), (1, .int zi901), (2, .int zi902), (3, .long wl903), (5, .int zi439)]) hx hb dX6_pick_34 hl (by decide) rfl (fun ls hl => ?_)
          refine lv_iload_n hx hb dX6_pick_36 rfl (lv_at hl 2 rfl) ?_
          refine lv_iconst (v := 1) hx hb dX6_pick_37 (by decide) ?_
          refine lv_icmp_ne (tgt := 60) hx hb dX6_pick_38 (by decide) (fun cn630 => ?_) (fun cn630 => ?_)
          · skip
            have bd631 : (2 : Int) ≤ zi901.toInt ∧ zi901.toInt ≤ 9 := r_ne_lo cn630 bd901 (toi bc_1) (by decide) (by decide)
            refine lv_aload_n hx hb dX6_pick_60 rfl (lv_at hl 1 rfl) ?_
            refine lv_lload hx hb dX6_pick_61 (lv_at hl 0 rfl) ?_
            refine lv_aload_n hx hb dX6_pick_63 rfl (lv_at hl 1 rfl) ?_
            obtain ⟨qa633, eq632, kd634⟩ := rd_7002 ok0 kd900
            refine p_get (ci := 6) (v := .ref qa633) (C := RX6) (T := TX6) (N := 6) hx hb hT iw_X6 hown hK hw hW kd900 (by decide) rfl rfl 2 (by decide) eq632 (hT _ tb_530) (fun _ h9 => h9) dX6_pick_64 ?_
            refine lv_iload hx hb dX6_pick_67 (lv_at hl 5 rfl) ?_
            obtain ⟨wl636, eq635⟩ := rd_39000 ok0 kd634 ((zi439 : Int32).toNatClampNeg)
            refine p_lald (v := wl636) hx hb hK hw hW kd634 (by decide) rfl (hW.len kd634 (n := 17) rfl (by decide)) (vp_b bd622 (by decide) (by decide)) eq635 dX6_pick_69 ?_
            refine lv_land hx hb dX6_pick_70 (lv_topl (fun wl637 _ => ?_))
            refine kq_i hw hS hA (va_runV (As := [.long wl637]) (rest := []) ⟨hx, hb, hml, hown, hT⟩ (cX6_isEnough_0 l G cy ev K ln Ls hW _ hp0 ok0 qa900 wl637 kd900) (cwV 1 hT (good_V tb_1272 tb_1269 tb_1271 tb_43 tb_118) rfl rfl rfl (by decide +kernel) ⟨Nat.le_of_ble_eq_true rfl, Nat.le_of_ble_eq_true rfl⟩) (pool_preV (ci := 6) hK hE hS hA hw hW kd900 (by decide) rfl) rfl rfl hl.1 rfl (lv_room (Nat.le_of_ble_eq_true rfl)) dX6_pick_71 ⟨Nat.le_of_ble_eq_true rfl, Nat.le_of_ble_eq_true rfl⟩) (fun zi642 hp638 H locs hq641 hw hS => ?_)
            obtain ⟨ok639, F640, bd643⟩ := hq641
            obtain rfl : hp0 = hp638 := (Fr.nil F640).symm
            have hw : PW G cy K ln Ls A hp0 H := hw
            refine lv_if_eq (tgt := 108) hx hb dX6_pick_74 (by decide) (fun cn644 => ?_) (fun cn644 => ?_)
            · skip
              have bd645 : (0 : Int) ≤ zi642.toInt ∧ zi642.toInt ≤ 0 := r_eq_x cn644 bd643 bc_0 (by decide) (by decide)
              obtain ⟨zi646, ea647⟩ : ∃ z : Int32, z = zi439 + 1 := ⟨_, rfl⟩
              have bd648 : (1 : Int) ≤ zi646.toInt ∧ zi646.toInt ≤ 16 := b_iadd ea647 bd622 bc_1 (by decide) (by decide) (by decide) (by decide)
              have qe649 : zi646.toInt = (zi439 : Int32).toInt + (1 : Int32).toInt := e_iadd ea647 bd622 bc_1 (by decide) (by decide)
              have qe650 : zi646.toInt = zi439.toInt + 1 := by have ha : (1 : Int32).toInt = 1 := (by decide); rw [ha] at qe649; exact qe649
              refine lv_iinc (v := zi646) (lv' := [(5, .int zi646), (6, .long wl629), (0, .ref qa900), (1, .int zi901), (2, .int zi902), (3, .long wl903)]) hx hb dX6_pick_108 hl (k := 5) rfl ea647.symm (by decide) rfl (fun ls hl => ?_)
              refine lv_goto (tgt := 5) hx hb dX6_pick_111 (by decide) ?_
              exact ih612 zi646 _ _ ls (by have := hm614; have := qe650; omega) (b_wid2 bd648 (by decide) (by decide)) (lv_sub hl [2, 3, 4, 5, 0] rfl) hw hS
            · skip
              have bd651 : (1 : Int) ≤ zi642.toInt ∧ zi642.toInt ≤ 1 := r_ne_lo cn644 bd643 (toi bc_0) (by decide) (by decide)
              refine lv_aload_n hx hb dX6_pick_77 rfl (lv_at hl 1 rfl) ?_
              refine lv_iload_n hx hb dX6_pick_78 rfl (lv_at hl 2 rfl) ?_
              refine lv_iconst (v := 1) hx hb dX6_pick_79 (by decide) ?_
              refine lv_isub hx hb dX6_pick_80 (lv_topi (fun zi652 ea653 => ?_))
              have bd654 : (1 : Int) ≤ zi652.toInt ∧ zi652.toInt ≤ 8 := b_isub ea653 bd631 bc_1 (by decide) (by decide) (by decide) (by decide)
              have qe655 : zi652.toInt = (zi901 : Int32).toInt - (1 : Int32).toInt := e_isub ea653 bd631 bc_1 (by decide) (by decide)
              have qe656 : zi652.toInt = zi901.toInt - 1 := by have ha : (1 : Int32).toInt = 1 := (by decide); rw [ha] at qe655; exact qe655
              refine lv_iload hx hb dX6_pick_81 (lv_at hl 5 rfl) ?_
              refine lv_lload hx hb dX6_pick_83 (lv_at hl 0 rfl) ?_
              refine kq_i hw hS hA (va_runV (As := [.int zi652, .int zi439, .long wl629]) (rest := []) ⟨hx, hb, hml, hown, hT⟩ (cX6_pick_7 l G cy ev K ln Ls hW _ hp0 ok0 qa900 zi652 zi439 wl629 kd900 (b_wid2 bd654 (by decide) (by decide))) (cwV 3 hT (good_V tb_1277 tb_1274 tb_1276 tb_44 tb_118) rfl rfl rfl (by decide +kernel) ⟨Nat.le_of_ble_eq_true rfl, Nat.le_of_ble_eq_true rfl⟩) (pool_preV (ci := 6) hK hE hS hA hw hW kd900 (by decide) rfl) rfl rfl hl.1 rfl (lv_room (Nat.le_of_ble_eq_true rfl)) dX6_pick_85 ⟨Nat.le_of_ble_eq_true rfl, Nat.le_of_ble_eq_true rfl⟩) (fun zi661 hp657 H locs hq660 hw hS => ?_)
              obtain ⟨ok658, F659⟩ := hq660
              obtain rfl : hp0 = hp657 := (Fr.nil F659).symm
              have hw : PW G cy K ln Ls A hp0 H := hw
              refine lv_istore (lv' := [(8, .int zi661), (6, .long wl629), (0, .ref qa900), (1, .int zi901), (2, .int zi902), (3, .long wl903), (5, .int zi439)]) hx hb dX6_pick_88 hl (by decide) rfl (fun ls hl => ?_)
              refine lv_iload hx hb dX6_pick_90 (lv_at hl 0 rfl) ?_
              refine lv_if_eq (tgt := 108) hx hb dX6_pick_92 (by decide) (fun cn662 => ?_) (fun cn662 => ?_)
              · skip
                have bd663 : (0 : Int) ≤ zi661.toInt ∧ zi661.toInt ≤ 0 := r_eq_x cn662 (b_all zi661) bc_0 (by decide) (by decide)
                obtain ⟨zi664, ea665⟩ : ∃ z : Int32, z = zi439 + 1 := ⟨_, rfl⟩
                have bd666 : (1 : Int) ≤ zi664.toInt ∧ zi664.toInt ≤ 16 := b_iadd ea665 bd622 bc_1 (by decide) (by decide) (by decide) (by decide)
                have qe667 : zi664.toInt = (zi439 : Int32).toInt + (1 : Int32).toInt := e_iadd ea665 bd622 bc_1 (by decide) (by decide)
                have qe668 : zi664.toInt = zi439.toInt + 1 := by have ha : (1 : Int32).toInt = 1 := (by decide); rw [ha] at qe667; exact qe667
                refine lv_iinc (v := zi664) (lv' := [(5, .int zi664), (8, .int zi661), (6, .long wl629), (0, .ref qa900), (1, .int zi901), (2, .int zi902), (3, .long wl903)]) hx hb dX6_pick_108 hl (k := 6) rfl ea665.symm (by decide) rfl (fun ls hl => ?_)
                refine lv_goto (tgt := 5) hx hb dX6_pick_111 (by decide) ?_
                exact ih612 zi664 _ _ ls (by have := hm614; have := qe668; omega) (b_wid2 bd666 (by decide) (by decide)) (lv_sub hl [3, 4, 5, 6, 0] rfl) hw hS
              · skip
                refine lv_iload hx hb dX6_pick_95 (lv_at hl 0 rfl) ?_
                refine lv_iconst (v := 1) hx hb dX6_pick_97 (by decide) ?_
                refine lv_aload_n hx hb dX6_pick_98 rfl (lv_at hl 2 rfl) ?_
                obtain ⟨qa670, eq669, kd671⟩ := rd_7001 ok0 kd900
                refine p_get (ci := 6) (v := .ref qa670) (C := RX6) (T := TX6) (N := 6) hx hb hT iw_X6 hown hK hw hW kd900 (by decide) rfl rfl 1 (by decide) eq669 (hT _ tb_529) (fun _ h9 => h9) dX6_pick_99 ?_
                refine lv_iload hx hb dX6_pick_102 (lv_at hl 6 rfl) ?_
                obtain ⟨zi673, eq672⟩ := rd_38000 ok0 kd671 ((zi439 : Int32).toNatClampNeg)
                refine p_iald (v := zi673) hx hb hK hw hW kd671 (by decide) rfl (hW.len kd671 (n := 16) rfl (by decide)) (vp_b bd622 (by decide) (by decide)) eq672 dX6_pick_104 ?_
                refine lv_ishl hx hb dX6_pick_105 (lv_topi (fun zi674 ea675 => ?_))
                refine lv_ior hx hb dX6_pick_106 (lv_topi (fun zi676 ea677 => ?_))
                rw [hQ]
                exact kz_i hx hb hr hlocks hS rfl hp0 hw ⟨ok0, (Fr.rf)⟩ (Nat.le_of_ble_eq_true rfl) (Nat.le_of_ble_eq_true rfl) dX6_pick_107
          · skip
            have bd678 : (1 : Int) ≤ zi901.toInt ∧ zi901.toInt ≤ 1 := r_eq_x cn630 bd901 bc_1 (by decide) (by decide)
            refine lv_aload_n hx hb dX6_pick_41 rfl (lv_at hl 1 rfl) ?_
            refine lv_lload hx hb dX6_pick_42 (lv_at hl 0 rfl) ?_
            refine kq_i hw hS hA (va_runV (As := [.long wl629]) (rest := []) ⟨hx, hb, hml, hown, hT⟩ (cX6_isEnough_0 l G cy ev K ln Ls hW _ hp0 ok0 qa900 wl629 kd900) (cwV 1 hT (good_V tb_1272 tb_1269 tb_1271 tb_43 tb_118) rfl rfl rfl (by decide +kernel) ⟨Nat.le_of_ble_eq_true rfl, Nat.le_of_ble_eq_true rfl⟩) (pool_preV (ci := 6) hK hE hS hA hw hW kd900 (by decide) rfl) rfl rfl hl.1 rfl (lv_room (Nat.le_of_ble_eq_true rfl)) dX6_pick_44 ⟨Nat.le_of_ble_eq_true rfl, Nat.le_of_ble_eq_true rfl⟩) (fun zi683 hp679 H locs hq682 hw hS => ?_)
            obtain ⟨ok680, F681, bd684⟩ := hq682
            obtain rfl : hp0 = hp679 := (Fr.nil F681).symm
            have hw : PW G cy K ln Ls A hp0 H := hw
            refine lv_if_eq (tgt := 108) hx hb dX6_pick_47 (by decide) (fun cn685 => ?_) (fun cn685 => ?_)
            · skip
              have bd686 : (0 : Int) ≤ zi683.toInt ∧ zi683.toInt ≤ 0 := r_eq_x cn685 bd684 bc_0 (by decide) (by decide)
              obtain ⟨zi687, ea688⟩ : ∃ z : Int32, z = zi439 + 1 := ⟨_, rfl⟩
              have bd689 : (1 : Int) ≤ zi687.toInt ∧ zi687.toInt ≤ 16 := b_iadd ea688 bd622 bc_1 (by decide) (by decide) (by decide) (by decide)
              have qe690 : zi687.toInt = (zi439 : Int32).toInt + (1 : Int32).toInt := e_iadd ea688 bd622 bc_1 (by decide) (by decide)
              have qe691 : zi687.toInt = zi439.toInt + 1 := by have ha : (1 : Int32).toInt = 1 := (by decide); rw [ha] at qe690; exact qe690
              refine lv_iinc (v := zi687) (lv' := [(5, .int zi687), (6, .long wl629), (0, .ref qa900), (1, .int zi901), (2, .int zi902), (3, .long wl903)]) hx hb dX6_pick_108 hl (k := 5) rfl ea688.symm (by decide) rfl (fun ls hl => ?_)
              refine lv_goto (tgt := 5) hx hb dX6_pick_111 (by decide) ?_
              exact ih612 zi687 _ _ ls (by have := hm614; have := qe691; omega) (b_wid2 bd689 (by decide) (by decide)) (lv_sub hl [2, 3, 4, 5, 0] rfl) hw hS
            · skip
              have bd692 : (1 : Int) ≤ zi683.toInt ∧ zi683.toInt ≤ 1 := r_ne_lo cn685 bd684 (toi bc_0) (by decide) (by decide)
              refine lv_iconst (v := 1) hx hb dX6_pick_50 (by decide) ?_
              refine lv_aload_n hx hb dX6_pick_51 rfl (lv_at hl 1 rfl) ?_
              obtain ⟨qa694, eq693, kd695⟩ := rd_7001 ok0 kd900
              refine p_get (ci := 6) (v := .ref qa694) (C := RX6) (T := TX6) (N := 6) hx hb hT iw_X6 hown hK hw hW kd900 (by decide) rfl rfl 1 (by decide) eq693 (hT _ tb_529) (fun _ h9 => h9) dX6_pick_52 ?_
              refine lv_iload hx hb dX6_pick_55 (lv_at hl 5 rfl) ?_
              obtain ⟨zi697, eq696⟩ := rd_38000 ok0 kd695 ((zi439 : Int32).toNatClampNeg)
              refine p_iald (v := zi697) hx hb hK hw hW kd695 (by decide) rfl (hW.len kd695 (n := 16) rfl (by decide)) (vp_b bd622 (by decide) (by decide)) eq696 dX6_pick_57 ?_
              refine lv_ishl hx hb dX6_pick_58 (lv_topi (fun zi698 ea699 => ?_))
              rw [hQ]
              exact kz_i hx hb hr hlocks hS rfl hp0 hw ⟨ok0, (Fr.rf)⟩ (Nat.le_of_ble_eq_true rfl) (Nat.le_of_ble_eq_true rfl) dX6_pick_59
  exact lp613 _ zi1 _ _ ls (lp_in _) (b_wid2 bd3 (by decide) (by decide)) (lv_sub hl [1, 2, 3, 4, 0] rfl) hw hS

set_option maxRecDepth 100000 in
set_option maxHeartbeats 4000000 in
theorem cX6_pick_9 (l : Launch) (G : va_G) (cy : Nat → ClassId) (ev : Ew) (K ln : Nat → Nat) (Ls : List Nat) (hW : SW K ln Ls) (sz : Nat) (hp0 : Nat → Nat → Value) (ok0 : Ok K hp0) (qa900 : Nat) (zi901 : Int32) (zi902 : Int32) (wl903 : Int64) (kd900 : K qa900 = 7) (bd901 : ((1 : Int) ≤ zi901.toInt ∧ zi901.toInt ≤ 10)) : Met l yX6_pick (WS yX6_pick cX6_pick 9 (some .int)) { frames := 10, cells := 0, slots := 0, locals := 274 } (PB2 [.ref qa900, .int zi901, .int zi902, .long wl903] sz G cy ev (va_pl Ls (cellOf cy K ln hp0))) (QBi (S := (Nat → Nat → Value)) (fun (r : Int32) (u : (Nat → Nat → Value)) => Ok K u ∧ Fr [] K hp0 u) G (fun u => va_pl Ls (cellOf cy K ln u)) (va_A (va_pl Ls (cellOf cy K ln hp0)) sz)) 0 0 (va_A (va_pl Ls (cellOf cy K ln hp0)) sz) := by
  refine met_of2 (y := yX6_pick) (L := 9) (av := [.ref qa900, .int zi901, .int zi902, .long wl903]) (Qc := fun A => QBi (S := (Nat → Nat → Value)) (fun (r : Int32) (u : (Nat → Nat → Value)) => Ok K u ∧ Fr [] K hp0 u) G (fun u => va_pl Ls (cellOf cy K ln u)) A) (plainFor_of_name (by decide)) (Nat.le_of_ble_eq_true rfl) ?_
  intro p e s m below meth c hsz hx hb hr hml hown hT hlocks hin hK A hA hE hw hS ls hl
  have hw : PW G cy K ln Ls A hp0 s.heap := hw
  have hown : s.vm.findClass "LieClock$Sets" = some m.cls := hown
  have hl : lv_has ls 9 [(0, .ref qa900), (1, .int zi901), (2, .int zi902), (3, .long wl903)] := hl
  obtain ⟨Q, hQ⟩ : ∃ Q : State → Prop, Q = MQ below (QBi (S := (Nat → Nat → Value)) (fun (r : Int32) (u : (Nat → Nat → Value)) => Ok K u ∧ Fr [] K hp0 u) G (fun u => va_pl Ls (cellOf cy K ln u)) A) ([.ref qa900, .int zi901, .int zi902, .long wl903] : List Value).toArray s 0 0 A := ⟨_, rfl⟩
  rw [← hQ]
  refine lv_iload_n hx hb dX6_pick_0 rfl (lv_at hl 1 rfl) ?_
  refine lv_iconst (v := 1) hx hb dX6_pick_1 (by decide) ?_
  refine lv_isub hx hb dX6_pick_2 (lv_topi (fun zi1 ea2 => ?_))
  have bd3 : (0 : Int) ≤ zi1.toInt ∧ zi1.toInt ≤ 9 := b_isub ea2 bd901 bc_1 (by decide) (by decide) (by decide) (by decide)
  have qe4 : zi1.toInt = (zi901 : Int32).toInt - (1 : Int32).toInt := e_isub ea2 bd901 bc_1 (by decide) (by decide)
  have qe5 : zi1.toInt = zi901.toInt - 1 := by have ha : (1 : Int32).toInt = 1 := (by decide); rw [ha] at qe4; exact qe4
  refine lv_istore (lv' := [(5, .int zi1), (0, .ref qa900), (1, .int zi901), (2, .int zi902), (3, .long wl903)]) hx hb dX6_pick_3 hl (by decide) rfl (fun ls hl => ?_)
  have lp613 : ∀ (n611 : Nat) (zi439 : Int32) (H : Heap) (locs : List Loc) (ls : Array Slot), 16 - zi439.toInt < (n611 : Int) → ((0 : Int) ≤ zi439.toInt ∧ zi439.toInt ≤ 16) → lv_has ls 9 [(0, .ref qa900), (1, .int zi901), (2, .int zi902), (3, .long wl903), (5, .int zi439)] → PW G cy K ln Ls A hp0 H → va_S A s.heap H locs → W p l e ({ frames := 10, cells := 0, slots := 0, locals := 274 } : Room) s m ([.ref qa900, .int zi901, .int zi902, .long wl903] : List Value).toArray below meth c H locs 0 0 Q (F0 m 5 ls []) := by
    intro n611
    induction n611 with
    | zero =>
      intro zi439 H locs ls hm614 bd440 hl hw hS
      exact absurd hm614 (by have := bd440; omega)
    | succ n611 ih612 =>
      intro zi439 H locs ls hm614 bd440 hl hw hS
      refine lv_iload hx hb dX6_pick_5 (lv_at hl 4 rfl) ?_
      refine lv_if_lt (tgt := 114) hx hb dX6_pick_7 (by decide) (fun c => absurd c (d_nlt bd440 bc_0 (by decide))) (fun _ => ?_)
      refine lv_iload hx hb dX6_pick_10 (lv_at hl 4 rfl) ?_
      refine lv_iload_n hx hb dX6_pick_12 rfl (lv_at hl 2 rfl) ?_
      refine lv_icmp_ge (tgt := 114) hx hb dX6_pick_13 (by decide) (fun cn615 => ?_) (fun cn615 => ?_)
      · skip
        have bd616 : (-2147483648 : Int) ≤ zi902.toInt ∧ zi902.toInt ≤ 16 := r_le_x cn615 (b_all zi902) bd440 (by decide) (by decide)
        refine lv_iconst (v := 0) hx hb dX6_pick_114 (by decide) ?_
        rw [hQ]
        exact kz_i hx hb hr hlocks hS rfl hp0 hw ⟨ok0, (Fr.rf)⟩ (Nat.le_of_ble_eq_true rfl) (Nat.le_of_ble_eq_true rfl) dX6_pick_115
      · skip
        have bd617 : (1 : Int) ≤ zi902.toInt ∧ zi902.toInt ≤ 2147483647 := r_lt_y (Int32.not_le.mp cn615) bd440 (b_all zi902) (by decide) (by decide)
        refine lv_iload hx hb dX6_pick_16 (lv_at hl 4 rfl) ?_
        refine lv_aload_n hx hb dX6_pick_18 rfl (lv_at hl 0 rfl) ?_
        obtain ⟨zi619, eq618, bd620⟩ := rd_7003 ok0 kd900
        refine p_get (ci := 6) (v := .int zi619) (C := RX6) (T := TX6) (N := 6) hx hb hT iw_X6 hown hK hw hW kd900 (by decide) rfl rfl 3 (by decide) eq618 (hT _ tb_531) (fun _ h9 => h9) dX6_pick_19 ?_
        refine lv_icmp_ge (tgt := 114) hx hb dX6_pick_22 (by decide) (fun cn621 => ?_) (fun cn621 => ?_)
        · skip
          refine lv_iconst (v := 0) hx hb dX6_pick_114 (by decide) ?_
          rw [hQ]
          exact kz_i hx hb hr hlocks hS rfl hp0 hw ⟨ok0, (Fr.rf)⟩ (Nat.le_of_ble_eq_true rfl) (Nat.le_of_ble_eq_true rfl) dX6_pick_115
        · skip
          have bd622 : (0 : Int) ≤ zi439.toInt ∧ zi439.toInt ≤ 15 := r_lt_x (Int32.not_le.mp cn621) bd440 bd620 (by decide) (by decide)
          have bd623 : (1 : Int) ≤ zi619.toInt ∧ zi619.toInt ≤ 16 := r_lt_y (Int32.not_le.mp cn621) bd440 bd620 (by decide) (by decide)
          refine lv_lload_n hx hb dX6_pick_25 rfl (lv_at hl 3 rfl) ?_
          refine lv_aload_n hx hb dX6_pick_26 rfl (lv_at hl 0 rfl) ?_
          obtain ⟨qa625, eq624, kd626⟩ := rd_7000 ok0 kd900
          refine p_get (ci := 6) (v := .ref qa625) (C := RX6) (T := TX6) (N := 6) hx hb hT iw_X6 hown hK hw hW kd900 (by decide) rfl rfl 0 (by decide) eq624 (hT _ tb_528) (fun _ h9 => h9) dX6_pick_27 ?_
          refine lv_iload hx hb dX6_pick_30 (lv_at hl 4 rfl) ?_
          obtain ⟨wl628, eq627⟩ := rd_37000 ok0 kd626 ((zi439 : Int32).toNatClampNeg)
          refine p_lald (v := wl628) hx hb hK hw hW kd626 (by decide) rfl (hW.len kd626 (n := 16) rfl (by decide)) (vp_b bd622 (by decide) (by decide)) eq627 dX6_pick_32 ?_
          refine lv_land hx hb dX6_pick_33 (lv_topl (fun wl629 _ => ?_))
          refine lv_lstore (lv' := [(6, .long wl629), (0, .ref qa900), (1, .int zi901), (2, .int zi902), (3, .long wl903), (5, .int zi439)]) hx hb dX6_pick_34 hl (by decide) rfl (fun ls hl => ?_)
          refine lv_iload_n hx hb dX6_pick_36 rfl (lv_at hl 2 rfl) ?_
          refine lv_iconst (v := 1) hx hb dX6_pick_37 (by decide) ?_
          refine lv_icmp_ne (tgt := 60) hx hb dX6_pick_38 (by decide) (fun cn630 => ?_) (fun cn630 => ?_)
          · skip
            have bd631 : (2 : Int) ≤ zi901.toInt ∧ zi901.toInt ≤ 10 := r_ne_lo cn630 bd901 (toi bc_1) (by decide) (by decide)
            refine lv_aload_n hx hb dX6_pick_60 rfl (lv_at hl 1 rfl) ?_
            refine lv_lload hx hb dX6_pick_61 (lv_at hl 0 rfl) ?_
            refine lv_aload_n hx hb dX6_pick_63 rfl (lv_at hl 1 rfl) ?_
            obtain ⟨qa633, eq632, kd634⟩ := rd_7002 ok0 kd900
            refine p_get (ci := 6) (v := .ref qa633) (C := RX6) (T := TX6) (N := 6) hx hb hT iw_X6 hown hK hw hW kd900 (by decide) rfl rfl 2 (by decide) eq632 (hT _ tb_530) (fun _ h9 => h9) dX6_pick_64 ?_
            refine lv_iload hx hb dX6_pick_67 (lv_at hl 5 rfl) ?_
            obtain ⟨wl636, eq635⟩ := rd_39000 ok0 kd634 ((zi439 : Int32).toNatClampNeg)
            refine p_lald (v := wl636) hx hb hK hw hW kd634 (by decide) rfl (hW.len kd634 (n := 17) rfl (by decide)) (vp_b bd622 (by decide) (by decide)) eq635 dX6_pick_69 ?_
            refine lv_land hx hb dX6_pick_70 (lv_topl (fun wl637 _ => ?_))
            refine kq_i hw hS hA (va_runV (As := [.long wl637]) (rest := []) ⟨hx, hb, hml, hown, hT⟩ (cX6_isEnough_0 l G cy ev K ln Ls hW _ hp0 ok0 qa900 wl637 kd900) (cwV 1 hT (good_V tb_1272 tb_1269 tb_1271 tb_43 tb_118) rfl rfl rfl (by decide +kernel) ⟨Nat.le_of_ble_eq_true rfl, Nat.le_of_ble_eq_true rfl⟩) (pool_preV (ci := 6) hK hE hS hA hw hW kd900 (by decide) rfl) rfl rfl hl.1 rfl (lv_room (Nat.le_of_ble_eq_true rfl)) dX6_pick_71 ⟨Nat.le_of_ble_eq_true rfl, Nat.le_of_ble_eq_true rfl⟩) (fun zi642 hp638 H locs hq641 hw hS => ?_)
            obtain ⟨ok639, F640, bd643⟩ := hq641
            obtain rfl : hp0 = hp638 := (Fr.nil F640).symm
            have hw : PW G cy K ln Ls A hp0 H := hw
            refine lv_if_eq (tgt := 108) hx hb dX6_pick_74 (by decide) (fun cn644 => ?_) (fun cn644 => ?_)
            · skip
              have bd645 : (0 : Int) ≤ zi642.toInt ∧ zi642.toInt ≤ 0 := r_eq_x cn644 bd643 bc_0 (by decide) (by decide)
              obtain ⟨zi646, ea647⟩ : ∃ z : Int32, z = zi439 + 1 := ⟨_, rfl⟩
              have bd648 : (1 : Int) ≤ zi646.toInt ∧ zi646.toInt ≤ 16 := b_iadd ea647 bd622 bc_1 (by decide) (by decide) (by decide) (by decide)
              have qe649 : zi646.toInt = (zi439 : Int32).toInt + (1 : Int32).toInt := e_iadd ea647 bd622 bc_1 (by decide) (by decide)
              have qe650 : zi646.toInt = zi439.toInt + 1 := by have ha : (1 : Int32).toInt = 1 := (by decide); rw [ha] at qe649; exact qe649
              refine lv_iinc (v := zi646) (lv' := [(5, .int zi646), (6, .long wl629), (0, .ref qa900), (1, .int zi901), (2, .int zi902), (3, .long wl903)]) hx hb dX6_pick_108 hl (k := 5) rfl ea647.symm (by decide) rfl (fun ls hl => ?_)
              refine lv_goto (tgt := 5) hx hb dX6_pick_111 (by decide) ?_
              exact ih612 zi646 _ _ ls (by have := hm614; have := qe650; omega) (b_wid2 bd648 (by decide) (by decide)) (lv_sub hl [2, 3, 4, 5, 0] rfl) hw hS
            · skip
              have bd651 : (1 : Int) ≤ zi642.toInt ∧ zi642.toInt ≤ 1 := r_ne_lo cn644 bd643 (toi bc_0) (by decide) (by decide)
              refine lv_aload_n hx hb dX6_pick_77 rfl (lv_at hl 1 rfl) ?_
              refine lv_iload_n hx hb dX6_pick_78 rfl (lv_at hl 2 rfl) ?_
              refine lv_iconst (v := 1) hx hb dX6_pick_79 (by decide) ?_
              refine lv_isub hx hb dX6_pick_80 (lv_topi (fun zi652 ea653 => ?_))
              have bd654 : (1 : Int) ≤ zi652.toInt ∧ zi652.toInt ≤ 9 := b_isub ea653 bd631 bc_1 (by decide) (by decide) (by decide) (by decide)
              have qe655 : zi652.toInt = (zi901 : Int32).toInt - (1 : Int32).toInt := e_isub ea653 bd631 bc_1 (by decide) (by decide)
              have qe656 : zi652.toInt = zi901.toInt - 1 := by have ha : (1 : Int32).toInt = 1 := (by decide); rw [ha] at qe655; exact qe655
              refine lv_iload hx hb dX6_pick_81 (lv_at hl 5 rfl) ?_
              refine lv_lload hx hb dX6_pick_83 (lv_at hl 0 rfl) ?_
              refine kq_i hw hS hA (va_runV (As := [.int zi652, .int zi439, .long wl629]) (rest := []) ⟨hx, hb, hml, hown, hT⟩ (cX6_pick_8 l G cy ev K ln Ls hW _ hp0 ok0 qa900 zi652 zi439 wl629 kd900 (b_wid2 bd654 (by decide) (by decide))) (cwV 3 hT (good_V tb_1277 tb_1274 tb_1276 tb_44 tb_118) rfl rfl rfl (by decide +kernel) ⟨Nat.le_of_ble_eq_true rfl, Nat.le_of_ble_eq_true rfl⟩) (pool_preV (ci := 6) hK hE hS hA hw hW kd900 (by decide) rfl) rfl rfl hl.1 rfl (lv_room (Nat.le_of_ble_eq_true rfl)) dX6_pick_85 ⟨Nat.le_of_ble_eq_true rfl, Nat.le_of_ble_eq_true rfl⟩) (fun zi661 hp657 H locs hq660 hw hS => ?_)
              obtain ⟨ok658, F659⟩ := hq660
              obtain rfl : hp0 = hp657 := (Fr.nil F659).symm
              have hw : PW G cy K ln Ls A hp0 H := hw
              refine lv_istore (lv' := [(8, .int zi661), (6, .long wl629), (0, .ref qa900), (1, .int zi901), (2, .int zi902), (3, .long wl903), (5, .int zi439)]) hx hb dX6_pick_88 hl (by decide) rfl (fun ls hl => ?_)
              refine lv_iload hx hb dX6_pick_90 (lv_at hl 0 rfl) ?_
              refine lv_if_eq (tgt := 108) hx hb dX6_pick_92 (by decide) (fun cn662 => ?_) (fun cn662 => ?_)
              · skip
                have bd663 : (0 : Int) ≤ zi661.toInt ∧ zi661.toInt ≤ 0 := r_eq_x cn662 (b_all zi661) bc_0 (by decide) (by decide)
                obtain ⟨zi664, ea665⟩ : ∃ z : Int32, z = zi439 + 1 := ⟨_, rfl⟩
                have bd666 : (1 : Int) ≤ zi664.toInt ∧ zi664.toInt ≤ 16 := b_iadd ea665 bd622 bc_1 (by decide) (by decide) (by decide) (by decide)
                have qe667 : zi664.toInt = (zi439 : Int32).toInt + (1 : Int32).toInt := e_iadd ea665 bd622 bc_1 (by decide) (by decide)
                have qe668 : zi664.toInt = zi439.toInt + 1 := by have ha : (1 : Int32).toInt = 1 := (by decide); rw [ha] at qe667; exact qe667
                refine lv_iinc (v := zi664) (lv' := [(5, .int zi664), (8, .int zi661), (6, .long wl629), (0, .ref qa900), (1, .int zi901), (2, .int zi902), (3, .long wl903)]) hx hb dX6_pick_108 hl (k := 6) rfl ea665.symm (by decide) rfl (fun ls hl => ?_)
                refine lv_goto (tgt := 5) hx hb dX6_pick_111 (by decide) ?_
                exact ih612 zi664 _ _ ls (by have := hm614; have := qe668; omega) (b_wid2 bd666 (by decide) (by decide)) (lv_sub hl [3, 4, 5, 6, 0] rfl) hw hS
              · skip
                refine lv_iload hx hb dX6_pick_95 (lv_at hl 0 rfl) ?_
                refine lv_iconst (v := 1) hx hb dX6_pick_97 (by decide) ?_
                refine lv_aload_n hx hb dX6_pick_98 rfl (lv_at hl 2 rfl) ?_
                obtain ⟨qa670, eq669, kd671⟩ := rd_7001 ok0 kd900
                refine p_get (ci := 6) (v := .ref qa670) (C := RX6) (T := TX6) (N := 6) hx hb hT iw_X6 hown hK hw hW kd900 (by decide) rfl rfl 1 (by decide) eq669 (hT _ tb_529) (fun _ h9 => h9) dX6_pick_99 ?_
                refine lv_iload hx hb dX6_pick_102 (lv_at hl 6 rfl) ?_
                obtain ⟨zi673, eq672⟩ := rd_38000 ok0 kd671 ((zi439 : Int32).toNatClampNeg)
                refine p_iald (v := zi673) hx hb hK hw hW kd671 (by decide) rfl (hW.len kd671 (n := 16) rfl (by decide)) (vp_b bd622 (by decide) (by decide)) eq672 dX6_pick_104 ?_
                refine lv_ishl hx hb dX6_pick_105 (lv_topi (fun zi674 ea675 => ?_))
                refine lv_ior hx hb dX6_pick_106 (lv_topi (fun zi676 ea677 => ?_))
                rw [hQ]
                exact kz_i hx hb hr hlocks hS rfl hp0 hw ⟨ok0, (Fr.rf)⟩ (Nat.le_of_ble_eq_true rfl) (Nat.le_of_ble_eq_true rfl) dX6_pick_107
          · skip
            have bd678 : (1 : Int) ≤ zi901.toInt ∧ zi901.toInt ≤ 1 := r_eq_x cn630 bd901 bc_1 (by decide) (by decide)
            refine lv_aload_n hx hb dX6_pick_41 rfl (lv_at hl 1 rfl) ?_
            refine lv_lload hx hb dX6_pick_42 (lv_at hl 0 rfl) ?_
            refine kq_i hw hS hA (va_runV (As := [.long wl629]) (rest := []) ⟨hx, hb, hml, hown, hT⟩ (cX6_isEnough_0 l G cy ev K ln Ls hW _ hp0 ok0 qa900 wl629 kd900) (cwV 1 hT (good_V tb_1272 tb_1269 tb_1271 tb_43 tb_118) rfl rfl rfl (by decide +kernel) ⟨Nat.le_of_ble_eq_true rfl, Nat.le_of_ble_eq_true rfl⟩) (pool_preV (ci := 6) hK hE hS hA hw hW kd900 (by decide) rfl) rfl rfl hl.1 rfl (lv_room (Nat.le_of_ble_eq_true rfl)) dX6_pick_44 ⟨Nat.le_of_ble_eq_true rfl, Nat.le_of_ble_eq_true rfl⟩) (fun zi683 hp679 H locs hq682 hw hS => ?_)
            obtain ⟨ok680, F681, bd684⟩ := hq682
            obtain rfl : hp0 = hp679 := (Fr.nil F681).symm
            have hw : PW G cy K ln Ls A hp0 H := hw
            refine lv_if_eq (tgt := 108) hx hb dX6_pick_47 (by decide) (fun cn685 => ?_) (fun cn685 => ?_)
            · skip
              have bd686 : (0 : Int) ≤ zi683.toInt ∧ zi683.toInt ≤ 0 := r_eq_x cn685 bd684 bc_0 (by decide) (by decide)
              obtain ⟨zi687, ea688⟩ : ∃ z : Int32, z = zi439 + 1 := ⟨_, rfl⟩
              have bd689 : (1 : Int) ≤ zi687.toInt ∧ zi687.toInt ≤ 16 := b_iadd ea688 bd622 bc_1 (by decide) (by decide) (by decide) (by decide)
              have qe690 : zi687.toInt = (zi439 : Int32).toInt + (1 : Int32).toInt := e_iadd ea688 bd622 bc_1 (by decide) (by decide)
              have qe691 : zi687.toInt = zi439.toInt + 1 := by have ha : (1 : Int32).toInt = 1 := (by decide); rw [ha] at qe690; exact qe690
              refine lv_iinc (v := zi687) (lv' := [(5, .int zi687), (6, .long wl629), (0, .ref qa900), (1, .int zi901), (2, .int zi902), (3, .long wl903)]) hx hb dX6_pick_108 hl (k := 5) rfl ea688.symm (by decide) rfl (fun ls hl => ?_)
              refine lv_goto (tgt := 5) hx hb dX6_pick_111 (by decide) ?_
              exact ih612 zi687 _ _ ls (by have := hm614; have := qe691; omega) (b_wid2 bd689 (by decide) (by decide)) (lv_sub hl [2, 3, 4, 5, 0] rfl) hw hS
            · skip
              have bd692 : (1 : Int) ≤ zi683.toInt ∧ zi683.toInt ≤ 1 := r_ne_lo cn685 bd684 (toi bc_0) (by decide) (by decide)
              refine lv_iconst (v := 1) hx hb dX6_pick_50 (by decide) ?_
              refine lv_aload_n hx hb dX6_pick_51 rfl (lv_at hl 1 rfl) ?_
              obtain ⟨qa694, eq693, kd695⟩ := rd_7001 ok0 kd900
              refine p_get (ci := 6) (v := .ref qa694) (C := RX6) (T := TX6) (N := 6) hx hb hT iw_X6 hown hK hw hW kd900 (by decide) rfl rfl 1 (by decide) eq693 (hT _ tb_529) (fun _ h9 => h9) dX6_pick_52 ?_
              refine lv_iload hx hb dX6_pick_55 (lv_at hl 5 rfl) ?_
              obtain ⟨zi697, eq696⟩ := rd_38000 ok0 kd695 ((zi439 : Int32).toNatClampNeg)
              refine p_iald (v := zi697) hx hb hK hw hW kd695 (by decide) rfl (hW.len kd695 (n := 16) rfl (by decide)) (vp_b bd622 (by decide) (by decide)) eq696 dX6_pick_57 ?_
              refine lv_ishl hx hb dX6_pick_58 (lv_topi (fun zi698 ea699 => ?_))
              rw [hQ]
              exact kz_i hx hb hr hlocks hS rfl hp0 hw ⟨ok0, (Fr.rf)⟩ (Nat.le_of_ble_eq_true rfl) (Nat.le_of_ble_eq_true rfl) dX6_pick_59
  exact lp613 _ zi1 _ _ ls (lp_in _) (b_wid2 bd3 (by decide) (by decide)) (lv_sub hl [1, 2, 3, 4, 0] rfl) hw hS

set_option maxRecDepth 100000 in
set_option maxHeartbeats 4000000 in
theorem cX6_pick_10 (l : Launch) (G : va_G) (cy : Nat → ClassId) (ev : Ew) (K ln : Nat → Nat) (Ls : List Nat) (hW : SW K ln Ls) (sz : Nat) (hp0 : Nat → Nat → Value) (ok0 : Ok K hp0) (qa900 : Nat) (zi901 : Int32) (zi902 : Int32) (wl903 : Int64) (kd900 : K qa900 = 7) (bd901 : ((1 : Int) ≤ zi901.toInt ∧ zi901.toInt ≤ 11)) : Met l yX6_pick (WS yX6_pick cX6_pick 9 (some .int)) { frames := 11, cells := 0, slots := 0, locals := 302 } (PB2 [.ref qa900, .int zi901, .int zi902, .long wl903] sz G cy ev (va_pl Ls (cellOf cy K ln hp0))) (QBi (S := (Nat → Nat → Value)) (fun (r : Int32) (u : (Nat → Nat → Value)) => Ok K u ∧ Fr [] K hp0 u) G (fun u => va_pl Ls (cellOf cy K ln u)) (va_A (va_pl Ls (cellOf cy K ln hp0)) sz)) 0 0 (va_A (va_pl Ls (cellOf cy K ln hp0)) sz) := by
  refine met_of2 (y := yX6_pick) (L := 9) (av := [.ref qa900, .int zi901, .int zi902, .long wl903]) (Qc := fun A => QBi (S := (Nat → Nat → Value)) (fun (r : Int32) (u : (Nat → Nat → Value)) => Ok K u ∧ Fr [] K hp0 u) G (fun u => va_pl Ls (cellOf cy K ln u)) A) (plainFor_of_name (by decide)) (Nat.le_of_ble_eq_true rfl) ?_
  intro p e s m below meth c hsz hx hb hr hml hown hT hlocks hin hK A hA hE hw hS ls hl
  have hw : PW G cy K ln Ls A hp0 s.heap := hw
  have hown : s.vm.findClass "LieClock$Sets" = some m.cls := hown
  have hl : lv_has ls 9 [(0, .ref qa900), (1, .int zi901), (2, .int zi902), (3, .long wl903)] := hl
  obtain ⟨Q, hQ⟩ : ∃ Q : State → Prop, Q = MQ below (QBi (S := (Nat → Nat → Value)) (fun (r : Int32) (u : (Nat → Nat → Value)) => Ok K u ∧ Fr [] K hp0 u) G (fun u => va_pl Ls (cellOf cy K ln u)) A) ([.ref qa900, .int zi901, .int zi902, .long wl903] : List Value).toArray s 0 0 A := ⟨_, rfl⟩
  rw [← hQ]
  refine lv_iload_n hx hb dX6_pick_0 rfl (lv_at hl 1 rfl) ?_
  refine lv_iconst (v := 1) hx hb dX6_pick_1 (by decide) ?_
  refine lv_isub hx hb dX6_pick_2 (lv_topi (fun zi1 ea2 => ?_))
  have bd3 : (0 : Int) ≤ zi1.toInt ∧ zi1.toInt ≤ 10 := b_isub ea2 bd901 bc_1 (by decide) (by decide) (by decide) (by decide)
  have qe4 : zi1.toInt = (zi901 : Int32).toInt - (1 : Int32).toInt := e_isub ea2 bd901 bc_1 (by decide) (by decide)
  have qe5 : zi1.toInt = zi901.toInt - 1 := by have ha : (1 : Int32).toInt = 1 := (by decide); rw [ha] at qe4; exact qe4
  refine lv_istore (lv' := [(5, .int zi1), (0, .ref qa900), (1, .int zi901), (2, .int zi902), (3, .long wl903)]) hx hb dX6_pick_3 hl (by decide) rfl (fun ls hl => ?_)
  have lp613 : ∀ (n611 : Nat) (zi439 : Int32) (H : Heap) (locs : List Loc) (ls : Array Slot), 16 - zi439.toInt < (n611 : Int) → ((0 : Int) ≤ zi439.toInt ∧ zi439.toInt ≤ 16) → lv_has ls 9 [(0, .ref qa900), (1, .int zi901), (2, .int zi902), (3, .long wl903), (5, .int zi439)] → PW G cy K ln Ls A hp0 H → va_S A s.heap H locs → W p l e ({ frames := 11, cells := 0, slots := 0, locals := 302 } : Room) s m ([.ref qa900, .int zi901, .int zi902, .long wl903] : List Value).toArray below meth c H locs 0 0 Q (F0 m 5 ls []) := by
    intro n611
    induction n611 with
    | zero =>
      intro zi439 H locs ls hm614 bd440 hl hw hS
      exact absurd hm614 (by have := bd440; omega)
    | succ n611 ih612 =>
      intro zi439 H locs ls hm614 bd440 hl hw hS
      refine lv_iload hx hb dX6_pick_5 (lv_at hl 4 rfl) ?_
      refine lv_if_lt (tgt := 114) hx hb dX6_pick_7 (by decide) (fun c => absurd c (d_nlt bd440 bc_0 (by decide))) (fun _ => ?_)
      refine lv_iload hx hb dX6_pick_10 (lv_at hl 4 rfl) ?_
      refine lv_iload_n hx hb dX6_pick_12 rfl (lv_at hl 2 rfl) ?_
      refine lv_icmp_ge (tgt := 114) hx hb dX6_pick_13 (by decide) (fun cn615 => ?_) (fun cn615 => ?_)
      · skip
        have bd616 : (-2147483648 : Int) ≤ zi902.toInt ∧ zi902.toInt ≤ 16 := r_le_x cn615 (b_all zi902) bd440 (by decide) (by decide)
        refine lv_iconst (v := 0) hx hb dX6_pick_114 (by decide) ?_
        rw [hQ]
        exact kz_i hx hb hr hlocks hS rfl hp0 hw ⟨ok0, (Fr.rf)⟩ (Nat.le_of_ble_eq_true rfl) (Nat.le_of_ble_eq_true rfl) dX6_pick_115
      · skip
        have bd617 : (1 : Int) ≤ zi902.toInt ∧ zi902.toInt ≤ 2147483647 := r_lt_y (Int32.not_le.mp cn615) bd440 (b_all zi902) (by decide) (by decide)
        refine lv_iload hx hb dX6_pick_16 (lv_at hl 4 rfl) ?_
        refine lv_aload_n hx hb dX6_pick_18 rfl (lv_at hl 0 rfl) ?_
        obtain ⟨zi619, eq618, bd620⟩ := rd_7003 ok0 kd900
        refine p_get (ci := 6) (v := .int zi619) (C := RX6) (T := TX6) (N := 6) hx hb hT iw_X6 hown hK hw hW kd900 (by decide) rfl rfl 3 (by decide) eq618 (hT _ tb_531) (fun _ h9 => h9) dX6_pick_19 ?_
        refine lv_icmp_ge (tgt := 114) hx hb dX6_pick_22 (by decide) (fun cn621 => ?_) (fun cn621 => ?_)
        · skip
          refine lv_iconst (v := 0) hx hb dX6_pick_114 (by decide) ?_
          rw [hQ]
          exact kz_i hx hb hr hlocks hS rfl hp0 hw ⟨ok0, (Fr.rf)⟩ (Nat.le_of_ble_eq_true rfl) (Nat.le_of_ble_eq_true rfl) dX6_pick_115
        · skip
          have bd622 : (0 : Int) ≤ zi439.toInt ∧ zi439.toInt ≤ 15 := r_lt_x (Int32.not_le.mp cn621) bd440 bd620 (by decide) (by decide)
          have bd623 : (1 : Int) ≤ zi619.toInt ∧ zi619.toInt ≤ 16 := r_lt_y (Int32.not_le.mp cn621) bd440 bd620 (by decide) (by decide)
          refine lv_lload_n hx hb dX6_pick_25 rfl (lv_at hl 3 rfl) ?_
          refine lv_aload_n hx hb dX6_pick_26 rfl (lv_at hl 0 rfl) ?_
          obtain ⟨qa625, eq624, kd626⟩ := rd_7000 ok0 kd900
          refine p_get (ci := 6) (v := .ref qa625) (C := RX6) (T := TX6) (N := 6) hx hb hT iw_X6 hown hK hw hW kd900 (by decide) rfl rfl 0 (by decide) eq624 (hT _ tb_528) (fun _ h9 => h9) dX6_pick_27 ?_
          refine lv_iload hx hb dX6_pick_30 (lv_at hl 4 rfl) ?_
          obtain ⟨wl628, eq627⟩ := rd_37000 ok0 kd626 ((zi439 : Int32).toNatClampNeg)
          refine p_lald (v := wl628) hx hb hK hw hW kd626 (by decide) rfl (hW.len kd626 (n := 16) rfl (by decide)) (vp_b bd622 (by decide) (by decide)) eq627 dX6_pick_32 ?_
          refine lv_land hx hb dX6_pick_33 (lv_topl (fun wl629 _ => ?_))
          refine lv_lstore (lv' := [(6, .long wl629), (0, .ref qa900), (1, .int zi901), (2, .int zi902), (3, .long wl903), (5, .int zi439)]) hx hb dX6_pick_34 hl (by decide) rfl (fun ls hl => ?_)
          refine lv_iload_n hx hb dX6_pick_36 rfl (lv_at hl 2 rfl) ?_
          refine lv_iconst (v := 1) hx hb dX6_pick_37 (by decide) ?_
          refine lv_icmp_ne (tgt := 60) hx hb dX6_pick_38 (by decide) (fun cn630 => ?_) (fun cn630 => ?_)
          · skip
            have bd631 : (2 : Int) ≤ zi901.toInt ∧ zi901.toInt ≤ 11 := r_ne_lo cn630 bd901 (toi bc_1) (by decide) (by decide)
            refine lv_aload_n hx hb dX6_pick_60 rfl (lv_at hl 1 rfl) ?_
            refine lv_lload hx hb dX6_pick_61 (lv_at hl 0 rfl) ?_
            refine lv_aload_n hx hb dX6_pick_63 rfl (lv_at hl 1 rfl) ?_
            obtain ⟨qa633, eq632, kd634⟩ := rd_7002 ok0 kd900
            refine p_get (ci := 6) (v := .ref qa633) (C := RX6) (T := TX6) (N := 6) hx hb hT iw_X6 hown hK hw hW kd900 (by decide) rfl rfl 2 (by decide) eq632 (hT _ tb_530) (fun _ h9 => h9) dX6_pick_64 ?_
            refine lv_iload hx hb dX6_pick_67 (lv_at hl 5 rfl) ?_
            obtain ⟨wl636, eq635⟩ := rd_39000 ok0 kd634 ((zi439 : Int32).toNatClampNeg)
            refine p_lald (v := wl636) hx hb hK hw hW kd634 (by decide) rfl (hW.len kd634 (n := 17) rfl (by decide)) (vp_b bd622 (by decide) (by decide)) eq635 dX6_pick_69 ?_
            refine lv_land hx hb dX6_pick_70 (lv_topl (fun wl637 _ => ?_))
            refine kq_i hw hS hA (va_runV (As := [.long wl637]) (rest := []) ⟨hx, hb, hml, hown, hT⟩ (cX6_isEnough_0 l G cy ev K ln Ls hW _ hp0 ok0 qa900 wl637 kd900) (cwV 1 hT (good_V tb_1272 tb_1269 tb_1271 tb_43 tb_118) rfl rfl rfl (by decide +kernel) ⟨Nat.le_of_ble_eq_true rfl, Nat.le_of_ble_eq_true rfl⟩) (pool_preV (ci := 6) hK hE hS hA hw hW kd900 (by decide) rfl) rfl rfl hl.1 rfl (lv_room (Nat.le_of_ble_eq_true rfl)) dX6_pick_71 ⟨Nat.le_of_ble_eq_true rfl, Nat.le_of_ble_eq_true rfl⟩) (fun zi642 hp638 H locs hq641 hw hS => ?_)
            obtain ⟨ok639, F640, bd643⟩ := hq641
            obtain rfl : hp0 = hp638 := (Fr.nil F640).symm
            have hw : PW G cy K ln Ls A hp0 H := hw
            refine lv_if_eq (tgt := 108) hx hb dX6_pick_74 (by decide) (fun cn644 => ?_) (fun cn644 => ?_)
            · skip
              have bd645 : (0 : Int) ≤ zi642.toInt ∧ zi642.toInt ≤ 0 := r_eq_x cn644 bd643 bc_0 (by decide) (by decide)
              obtain ⟨zi646, ea647⟩ : ∃ z : Int32, z = zi439 + 1 := ⟨_, rfl⟩
              have bd648 : (1 : Int) ≤ zi646.toInt ∧ zi646.toInt ≤ 16 := b_iadd ea647 bd622 bc_1 (by decide) (by decide) (by decide) (by decide)
              have qe649 : zi646.toInt = (zi439 : Int32).toInt + (1 : Int32).toInt := e_iadd ea647 bd622 bc_1 (by decide) (by decide)
              have qe650 : zi646.toInt = zi439.toInt + 1 := by have ha : (1 : Int32).toInt = 1 := (by decide); rw [ha] at qe649; exact qe649
              refine lv_iinc (v := zi646) (lv' := [(5, .int zi646), (6, .long wl629), (0, .ref qa900), (1, .int zi901), (2, .int zi902), (3, .long wl903)]) hx hb dX6_pick_108 hl (k := 5) rfl ea647.symm (by decide) rfl (fun ls hl => ?_)
              refine lv_goto (tgt := 5) hx hb dX6_pick_111 (by decide) ?_
              exact ih612 zi646 _ _ ls (by have := hm614; have := qe650; omega) (b_wid2 bd648 (by decide) (by decide)) (lv_sub hl [2, 3, 4, 5, 0] rfl) hw hS
            · skip
              have bd651 : (1 : Int) ≤ zi642.toInt ∧ zi642.toInt ≤ 1 := r_ne_lo cn644 bd643 (toi bc_0) (by decide) (by decide)
              refine lv_aload_n hx hb dX6_pick_77 rfl (lv_at hl 1 rfl) ?_
              refine lv_iload_n hx hb dX6_pick_78 rfl (lv_at hl 2 rfl) ?_
              refine lv_iconst (v := 1) hx hb dX6_pick_79 (by decide) ?_
              refine lv_isub hx hb dX6_pick_80 (lv_topi (fun zi652 ea653 => ?_))
              have bd654 : (1 : Int) ≤ zi652.toInt ∧ zi652.toInt ≤ 10 := b_isub ea653 bd631 bc_1 (by decide) (by decide) (by decide) (by decide)
              have qe655 : zi652.toInt = (zi901 : Int32).toInt - (1 : Int32).toInt := e_isub ea653 bd631 bc_1 (by decide) (by decide)
              have qe656 : zi652.toInt = zi901.toInt - 1 := by have ha : (1 : Int32).toInt = 1 := (by decide); rw [ha] at qe655; exact qe655
              refine lv_iload hx hb dX6_pick_81 (lv_at hl 5 rfl) ?_
              refine lv_lload hx hb dX6_pick_83 (lv_at hl 0 rfl) ?_
              refine kq_i hw hS hA (va_runV (As := [.int zi652, .int zi439, .long wl629]) (rest := []) ⟨hx, hb, hml, hown, hT⟩ (cX6_pick_9 l G cy ev K ln Ls hW _ hp0 ok0 qa900 zi652 zi439 wl629 kd900 (b_wid2 bd654 (by decide) (by decide))) (cwV 3 hT (good_V tb_1277 tb_1274 tb_1276 tb_44 tb_118) rfl rfl rfl (by decide +kernel) ⟨Nat.le_of_ble_eq_true rfl, Nat.le_of_ble_eq_true rfl⟩) (pool_preV (ci := 6) hK hE hS hA hw hW kd900 (by decide) rfl) rfl rfl hl.1 rfl (lv_room (Nat.le_of_ble_eq_true rfl)) dX6_pick_85 ⟨Nat.le_of_ble_eq_true rfl, Nat.le_of_ble_eq_true rfl⟩) (fun zi661 hp657 H locs hq660 hw hS => ?_)
              obtain ⟨ok658, F659⟩ := hq660
              obtain rfl : hp0 = hp657 := (Fr.nil F659).symm
              have hw : PW G cy K ln Ls A hp0 H := hw
              refine lv_istore (lv' := [(8, .int zi661), (6, .long wl629), (0, .ref qa900), (1, .int zi901), (2, .int zi902), (3, .long wl903), (5, .int zi439)]) hx hb dX6_pick_88 hl (by decide) rfl (fun ls hl => ?_)
              refine lv_iload hx hb dX6_pick_90 (lv_at hl 0 rfl) ?_
              refine lv_if_eq (tgt := 108) hx hb dX6_pick_92 (by decide) (fun cn662 => ?_) (fun cn662 => ?_)
              · skip
                have bd663 : (0 : Int) ≤ zi661.toInt ∧ zi661.toInt ≤ 0 := r_eq_x cn662 (b_all zi661) bc_0 (by decide) (by decide)
                obtain ⟨zi664, ea665⟩ : ∃ z : Int32, z = zi439 + 1 := ⟨_, rfl⟩
                have bd666 : (1 : Int) ≤ zi664.toInt ∧ zi664.toInt ≤ 16 := b_iadd ea665 bd622 bc_1 (by decide) (by decide) (by decide) (by decide)
                have qe667 : zi664.toInt = (zi439 : Int32).toInt + (1 : Int32).toInt := e_iadd ea665 bd622 bc_1 (by decide) (by decide)
                have qe668 : zi664.toInt = zi439.toInt + 1 := by have ha : (1 : Int32).toInt = 1 := (by decide); rw [ha] at qe667; exact qe667
                refine lv_iinc (v := zi664) (lv' := [(5, .int zi664), (8, .int zi661), (6, .long wl629), (0, .ref qa900), (1, .int zi901), (2, .int zi902), (3, .long wl903)]) hx hb dX6_pick_108 hl (k := 6) rfl ea665.symm (by decide) rfl (fun ls hl => ?_)
                refine lv_goto (tgt := 5) hx hb dX6_pick_111 (by decide) ?_
                exact ih612 zi664 _ _ ls (by have := hm614; have := qe668; omega) (b_wid2 bd666 (by decide) (by decide)) (lv_sub hl [3, 4, 5, 6, 0] rfl) hw hS
              · skip
                refine lv_iload hx hb dX6_pick_95 (lv_at hl 0 rfl) ?_
                refine lv_iconst (v := 1) hx hb dX6_pick_97 (by decide) ?_
                refine lv_aload_n hx hb dX6_pick_98 rfl (lv_at hl 2 rfl) ?_
                obtain ⟨qa670, eq669, kd671⟩ := rd_7001 ok0 kd900
                refine p_get (ci := 6) (v := .ref qa670) (C := RX6) (T := TX6) (N := 6) hx hb hT iw_X6 hown hK hw hW kd900 (by decide) rfl rfl 1 (by decide) eq669 (hT _ tb_529) (fun _ h9 => h9) dX6_pick_99 ?_
                refine lv_iload hx hb dX6_pick_102 (lv_at hl 6 rfl) ?_
                obtain ⟨zi673, eq672⟩ := rd_38000 ok0 kd671 ((zi439 : Int32).toNatClampNeg)
                refine p_iald (v := zi673) hx hb hK hw hW kd671 (by decide) rfl (hW.len kd671 (n := 16) rfl (by decide)) (vp_b bd622 (by decide) (by decide)) eq672 dX6_pick_104 ?_
                refine lv_ishl hx hb dX6_pick_105 (lv_topi (fun zi674 ea675 => ?_))
                refine lv_ior hx hb dX6_pick_106 (lv_topi (fun zi676 ea677 => ?_))
                rw [hQ]
                exact kz_i hx hb hr hlocks hS rfl hp0 hw ⟨ok0, (Fr.rf)⟩ (Nat.le_of_ble_eq_true rfl) (Nat.le_of_ble_eq_true rfl) dX6_pick_107
          · skip
            have bd678 : (1 : Int) ≤ zi901.toInt ∧ zi901.toInt ≤ 1 := r_eq_x cn630 bd901 bc_1 (by decide) (by decide)
            refine lv_aload_n hx hb dX6_pick_41 rfl (lv_at hl 1 rfl) ?_
            refine lv_lload hx hb dX6_pick_42 (lv_at hl 0 rfl) ?_
            refine kq_i hw hS hA (va_runV (As := [.long wl629]) (rest := []) ⟨hx, hb, hml, hown, hT⟩ (cX6_isEnough_0 l G cy ev K ln Ls hW _ hp0 ok0 qa900 wl629 kd900) (cwV 1 hT (good_V tb_1272 tb_1269 tb_1271 tb_43 tb_118) rfl rfl rfl (by decide +kernel) ⟨Nat.le_of_ble_eq_true rfl, Nat.le_of_ble_eq_true rfl⟩) (pool_preV (ci := 6) hK hE hS hA hw hW kd900 (by decide) rfl) rfl rfl hl.1 rfl (lv_room (Nat.le_of_ble_eq_true rfl)) dX6_pick_44 ⟨Nat.le_of_ble_eq_true rfl, Nat.le_of_ble_eq_true rfl⟩) (fun zi683 hp679 H locs hq682 hw hS => ?_)
            obtain ⟨ok680, F681, bd684⟩ := hq682
            obtain rfl : hp0 = hp679 := (Fr.nil F681).symm
            have hw : PW G cy K ln Ls A hp0 H := hw
            refine lv_if_eq (tgt := 108) hx hb dX6_pick_47 (by decide) (fun cn685 => ?_) (fun cn685 => ?_)
            · skip
              have bd686 : (0 : Int) ≤ zi683.toInt ∧ zi683.toInt ≤ 0 := r_eq_x cn685 bd684 bc_0 (by decide) (by decide)
              obtain ⟨zi687, ea688⟩ : ∃ z : Int32, z = zi439 + 1 := ⟨_, rfl⟩
              have bd689 : (1 : Int) ≤ zi687.toInt ∧ zi687.toInt ≤ 16 := b_iadd ea688 bd622 bc_1 (by decide) (by decide) (by decide) (by decide)
              have qe690 : zi687.toInt = (zi439 : Int32).toInt + (1 : Int32).toInt := e_iadd ea688 bd622 bc_1 (by decide) (by decide)
              have qe691 : zi687.toInt = zi439.toInt + 1 := by have ha : (1 : Int32).toInt = 1 := (by decide); rw [ha] at qe690; exact qe690
              refine lv_iinc (v := zi687) (lv' := [(5, .int zi687), (6, .long wl629), (0, .ref qa900), (1, .int zi901), (2, .int zi902), (3, .long wl903)]) hx hb dX6_pick_108 hl (k := 5) rfl ea688.symm (by decide) rfl (fun ls hl => ?_)
              refine lv_goto (tgt := 5) hx hb dX6_pick_111 (by decide) ?_
              exact ih612 zi687 _ _ ls (by have := hm614; have := qe691; omega) (b_wid2 bd689 (by decide) (by decide)) (lv_sub hl [2, 3, 4, 5, 0] rfl) hw hS
            · skip
              have bd692 : (1 : Int) ≤ zi683.toInt ∧ zi683.toInt ≤ 1 := r_ne_lo cn685 bd684 (toi bc_0) (by decide) (by decide)
              refine lv_iconst (v := 1) hx hb dX6_pick_50 (by decide) ?_
              refine lv_aload_n hx hb dX6_pick_51 rfl (lv_at hl 1 rfl) ?_
              obtain ⟨qa694, eq693, kd695⟩ := rd_7001 ok0 kd900
              refine p_get (ci := 6) (v := .ref qa694) (C := RX6) (T := TX6) (N := 6) hx hb hT iw_X6 hown hK hw hW kd900 (by decide) rfl rfl 1 (by decide) eq693 (hT _ tb_529) (fun _ h9 => h9) dX6_pick_52 ?_
              refine lv_iload hx hb dX6_pick_55 (lv_at hl 5 rfl) ?_
              obtain ⟨zi697, eq696⟩ := rd_38000 ok0 kd695 ((zi439 : Int32).toNatClampNeg)
              refine p_iald (v := zi697) hx hb hK hw hW kd695 (by decide) rfl (hW.len kd695 (n := 16) rfl (by decide)) (vp_b bd622 (by decide) (by decide)) eq696 dX6_pick_57 ?_
              refine lv_ishl hx hb dX6_pick_58 (lv_topi (fun zi698 ea699 => ?_))
              rw [hQ]
              exact kz_i hx hb hr hlocks hS rfl hp0 hw ⟨ok0, (Fr.rf)⟩ (Nat.le_of_ble_eq_true rfl) (Nat.le_of_ble_eq_true rfl) dX6_pick_59
  exact lp613 _ zi1 _ _ ls (lp_in _) (b_wid2 bd3 (by decide) (by decide)) (lv_sub hl [1, 2, 3, 4, 0] rfl) hw hS

set_option maxRecDepth 100000 in
set_option maxHeartbeats 4000000 in
theorem cX6_pick_11 (l : Launch) (G : va_G) (cy : Nat → ClassId) (ev : Ew) (K ln : Nat → Nat) (Ls : List Nat) (hW : SW K ln Ls) (sz : Nat) (hp0 : Nat → Nat → Value) (ok0 : Ok K hp0) (qa900 : Nat) (zi901 : Int32) (zi902 : Int32) (wl903 : Int64) (kd900 : K qa900 = 7) (bd901 : ((1 : Int) ≤ zi901.toInt ∧ zi901.toInt ≤ 12)) : Met l yX6_pick (WS yX6_pick cX6_pick 9 (some .int)) { frames := 12, cells := 0, slots := 0, locals := 330 } (PB2 [.ref qa900, .int zi901, .int zi902, .long wl903] sz G cy ev (va_pl Ls (cellOf cy K ln hp0))) (QBi (S := (Nat → Nat → Value)) (fun (r : Int32) (u : (Nat → Nat → Value)) => Ok K u ∧ Fr [] K hp0 u) G (fun u => va_pl Ls (cellOf cy K ln u)) (va_A (va_pl Ls (cellOf cy K ln hp0)) sz)) 0 0 (va_A (va_pl Ls (cellOf cy K ln hp0)) sz) := by
  refine met_of2 (y := yX6_pick) (L := 9) (av := [.ref qa900, .int zi901, .int zi902, .long wl903]) (Qc := fun A => QBi (S := (Nat → Nat → Value)) (fun (r : Int32) (u : (Nat → Nat → Value)) => Ok K u ∧ Fr [] K hp0 u) G (fun u => va_pl Ls (cellOf cy K ln u)) A) (plainFor_of_name (by decide)) (Nat.le_of_ble_eq_true rfl) ?_
  intro p e s m below meth c hsz hx hb hr hml hown hT hlocks hin hK A hA hE hw hS ls hl
  have hw : PW G cy K ln Ls A hp0 s.heap := hw
  have hown : s.vm.findClass "LieClock$Sets" = some m.cls := hown
  have hl : lv_has ls 9 [(0, .ref qa900), (1, .int zi901), (2, .int zi902), (3, .long wl903)] := hl
  obtain ⟨Q, hQ⟩ : ∃ Q : State → Prop, Q = MQ below (QBi (S := (Nat → Nat → Value)) (fun (r : Int32) (u : (Nat → Nat → Value)) => Ok K u ∧ Fr [] K hp0 u) G (fun u => va_pl Ls (cellOf cy K ln u)) A) ([.ref qa900, .int zi901, .int zi902, .long wl903] : List Value).toArray s 0 0 A := ⟨_, rfl⟩
  rw [← hQ]
  refine lv_iload_n hx hb dX6_pick_0 rfl (lv_at hl 1 rfl) ?_
  refine lv_iconst (v := 1) hx hb dX6_pick_1 (by decide) ?_
  refine lv_isub hx hb dX6_pick_2 (lv_topi (fun zi1 ea2 => ?_))
  have bd3 : (0 : Int) ≤ zi1.toInt ∧ zi1.toInt ≤ 11 := b_isub ea2 bd901 bc_1 (by decide) (by decide) (by decide) (by decide)
  have qe4 : zi1.toInt = (zi901 : Int32).toInt - (1 : Int32).toInt := e_isub ea2 bd901 bc_1 (by decide) (by decide)
  have qe5 : zi1.toInt = zi901.toInt - 1 := by have ha : (1 : Int32).toInt = 1 := (by decide); rw [ha] at qe4; exact qe4
  refine lv_istore (lv' := [(5, .int zi1), (0, .ref qa900), (1, .int zi901), (2, .int zi902), (3, .long wl903)]) hx hb dX6_pick_3 hl (by decide) rfl (fun ls hl => ?_)
  have lp613 : ∀ (n611 : Nat) (zi439 : Int32) (H : Heap) (locs : List Loc) (ls : Array Slot), 16 - zi439.toInt < (n611 : Int) → ((0 : Int) ≤ zi439.toInt ∧ zi439.toInt ≤ 16) → lv_has ls 9 [(0, .ref qa900), (1, .int zi901), (2, .int zi902), (3, .long wl903), (5, .int zi439)] → PW G cy K ln Ls A hp0 H → va_S A s.heap H locs → W p l e ({ frames := 12, cells := 0, slots := 0, locals := 330 } : Room) s m ([.ref qa900, .int zi901, .int zi902, .long wl903] : List Value).toArray below meth c H locs 0 0 Q (F0 m 5 ls []) := by
    intro n611
    induction n611 with
    | zero =>
      intro zi439 H locs ls hm614 bd440 hl hw hS
      exact absurd hm614 (by have := bd440; omega)
    | succ n611 ih612 =>
      intro zi439 H locs ls hm614 bd440 hl hw hS
      refine lv_iload hx hb dX6_pick_5 (lv_at hl 4 rfl) ?_
      refine lv_if_lt (tgt := 114) hx hb dX6_pick_7 (by decide) (fun c => absurd c (d_nlt bd440 bc_0 (by decide))) (fun _ => ?_)
      refine lv_iload hx hb dX6_pick_10 (lv_at hl 4 rfl) ?_
      refine lv_iload_n hx hb dX6_pick_12 rfl (lv_at hl 2 rfl) ?_
      refine lv_icmp_ge (tgt := 114) hx hb dX6_pick_13 (by decide) (fun cn615 => ?_) (fun cn615 => ?_)
      · skip
        have bd616 : (-2147483648 : Int) ≤ zi902.toInt ∧ zi902.toInt ≤ 16 := r_le_x cn615 (b_all zi902) bd440 (by decide) (by decide)
        refine lv_iconst (v := 0) hx hb dX6_pick_114 (by decide) ?_
        rw [hQ]
        exact kz_i hx hb hr hlocks hS rfl hp0 hw ⟨ok0, (Fr.rf)⟩ (Nat.le_of_ble_eq_true rfl) (Nat.le_of_ble_eq_true rfl) dX6_pick_115
      · skip
        have bd617 : (1 : Int) ≤ zi902.toInt ∧ zi902.toInt ≤ 2147483647 := r_lt_y (Int32.not_le.mp cn615) bd440 (b_all zi902) (by decide) (by decide)
        refine lv_iload hx hb dX6_pick_16 (lv_at hl 4 rfl) ?_
        refine lv_aload_n hx hb dX6_pick_18 rfl (lv_at hl 0 rfl) ?_
        obtain ⟨zi619, eq618, bd620⟩ := rd_7003 ok0 kd900
        refine p_get (ci := 6) (v := .int zi619) (C := RX6) (T := TX6) (N := 6) hx hb hT iw_X6 hown hK hw hW kd900 (by decide) rfl rfl 3 (by decide) eq618 (hT _ tb_531) (fun _ h9 => h9) dX6_pick_19 ?_
        refine lv_icmp_ge (tgt := 114) hx hb dX6_pick_22 (by decide) (fun cn621 => ?_) (fun cn621 => ?_)
        · skip
          refine lv_iconst (v := 0) hx hb dX6_pick_114 (by decide) ?_
          rw [hQ]
          exact kz_i hx hb hr hlocks hS rfl hp0 hw ⟨ok0, (Fr.rf)⟩ (Nat.le_of_ble_eq_true rfl) (Nat.le_of_ble_eq_true rfl) dX6_pick_115
        · skip
          have bd622 : (0 : Int) ≤ zi439.toInt ∧ zi439.toInt ≤ 15 := r_lt_x (Int32.not_le.mp cn621) bd440 bd620 (by decide) (by decide)
          have bd623 : (1 : Int) ≤ zi619.toInt ∧ zi619.toInt ≤ 16 := r_lt_y (Int32.not_le.mp cn621) bd440 bd620 (by decide) (by decide)
          refine lv_lload_n hx hb dX6_pick_25 rfl (lv_at hl 3 rfl) ?_
          refine lv_aload_n hx hb dX6_pick_26 rfl (lv_at hl 0 rfl) ?_
          obtain ⟨qa625, eq624, kd626⟩ := rd_7000 ok0 kd900
          refine p_get (ci := 6) (v := .ref qa625) (C := RX6) (T := TX6) (N := 6) hx hb hT iw_X6 hown hK hw hW kd900 (by decide) rfl rfl 0 (by decide) eq624 (hT _ tb_528) (fun _ h9 => h9) dX6_pick_27 ?_
          refine lv_iload hx hb dX6_pick_30 (lv_at hl 4 rfl) ?_
          obtain ⟨wl628, eq627⟩ := rd_37000 ok0 kd626 ((zi439 : Int32).toNatClampNeg)
          refine p_lald (v := wl628) hx hb hK hw hW kd626 (by decide) rfl (hW.len kd626 (n := 16) rfl (by decide)) (vp_b bd622 (by decide) (by decide)) eq627 dX6_pick_32 ?_
          refine lv_land hx hb dX6_pick_33 (lv_topl (fun wl629 _ => ?_))
          refine lv_lstore (lv' := [(6, .long wl629), (0, .ref qa900), (1, .int zi901), (2, .int zi902), (3, .long wl903), (5, .int zi439)]) hx hb dX6_pick_34 hl (by decide) rfl (fun ls hl => ?_)
          refine lv_iload_n hx hb dX6_pick_36 rfl (lv_at hl 2 rfl) ?_
          refine lv_iconst (v := 1) hx hb dX6_pick_37 (by decide) ?_
          refine lv_icmp_ne (tgt := 60) hx hb dX6_pick_38 (by decide) (fun cn630 => ?_) (fun cn630 => ?_)
          · skip
            have bd631 : (2 : Int) ≤ zi901.toInt ∧ zi901.toInt ≤ 12 := r_ne_lo cn630 bd901 (toi bc_1) (by decide) (by decide)
            refine lv_aload_n hx hb dX6_pick_60 rfl (lv_at hl 1 rfl) ?_
            refine lv_lload hx hb dX6_pick_61 (lv_at hl 0 rfl) ?_
            refine lv_aload_n hx hb dX6_pick_63 rfl (lv_at hl 1 rfl) ?_
            obtain ⟨qa633, eq632, kd634⟩ := rd_7002 ok0 kd900
            refine p_get (ci := 6) (v := .ref qa633) (C := RX6) (T := TX6) (N := 6) hx hb hT iw_X6 hown hK hw hW kd900 (by decide) rfl rfl 2 (by decide) eq632 (hT _ tb_530) (fun _ h9 => h9) dX6_pick_64 ?_
            refine lv_iload hx hb dX6_pick_67 (lv_at hl 5 rfl) ?_
            obtain ⟨wl636, eq635⟩ := rd_39000 ok0 kd634 ((zi439 : Int32).toNatClampNeg)
            refine p_lald (v := wl636) hx hb hK hw hW kd634 (by decide) rfl (hW.len kd634 (n := 17) rfl (by decide)) (vp_b bd622 (by decide) (by decide)) eq635 dX6_pick_69 ?_
            refine lv_land hx hb dX6_pick_70 (lv_topl (fun wl637 _ => ?_))
            refine kq_i hw hS hA (va_runV (As := [.long wl637]) (rest := []) ⟨hx, hb, hml, hown, hT⟩ (cX6_isEnough_0 l G cy ev K ln Ls hW _ hp0 ok0 qa900 wl637 kd900) (cwV 1 hT (good_V tb_1272 tb_1269 tb_1271 tb_43 tb_118) rfl rfl rfl (by decide +kernel) ⟨Nat.le_of_ble_eq_true rfl, Nat.le_of_ble_eq_true rfl⟩) (pool_preV (ci := 6) hK hE hS hA hw hW kd900 (by decide) rfl) rfl rfl hl.1 rfl (lv_room (Nat.le_of_ble_eq_true rfl)) dX6_pick_71 ⟨Nat.le_of_ble_eq_true rfl, Nat.le_of_ble_eq_true rfl⟩) (fun zi642 hp638 H locs hq641 hw hS => ?_)
            obtain ⟨ok639, F640, bd643⟩ := hq641
            obtain rfl : hp0 = hp638 := (Fr.nil F640).symm
            have hw : PW G cy K ln Ls A hp0 H := hw
            refine lv_if_eq (tgt := 108) hx hb dX6_pick_74 (by decide) (fun cn644 => ?_) (fun cn644 => ?_)
            · skip
              have bd645 : (0 : Int) ≤ zi642.toInt ∧ zi642.toInt ≤ 0 := r_eq_x cn644 bd643 bc_0 (by decide) (by decide)
              obtain ⟨zi646, ea647⟩ : ∃ z : Int32, z = zi439 + 1 := ⟨_, rfl⟩
              have bd648 : (1 : Int) ≤ zi646.toInt ∧ zi646.toInt ≤ 16 := b_iadd ea647 bd622 bc_1 (by decide) (by decide) (by decide) (by decide)
              have qe649 : zi646.toInt = (zi439 : Int32).toInt + (1 : Int32).toInt := e_iadd ea647 bd622 bc_1 (by decide) (by decide)
              have qe650 : zi646.toInt = zi439.toInt + 1 := by have ha : (1 : Int32).toInt = 1 := (by decide); rw [ha] at qe649; exact qe649
              refine lv_iinc (v := zi646) (lv' := [(5, .int zi646), (6, .long wl629), (0, .ref qa900), (1, .int zi901), (2, .int zi902), (3, .long wl903)]) hx hb dX6_pick_108 hl (k := 5) rfl ea647.symm (by decide) rfl (fun ls hl => ?_)
              refine lv_goto (tgt := 5) hx hb dX6_pick_111 (by decide) ?_
              exact ih612 zi646 _ _ ls (by have := hm614; have := qe650; omega) (b_wid2 bd648 (by decide) (by decide)) (lv_sub hl [2, 3, 4, 5, 0] rfl) hw hS
            · skip
              have bd651 : (1 : Int) ≤ zi642.toInt ∧ zi642.toInt ≤ 1 := r_ne_lo cn644 bd643 (toi bc_0) (by decide) (by decide)
              refine lv_aload_n hx hb dX6_pick_77 rfl (lv_at hl 1 rfl) ?_
              refine lv_iload_n hx hb dX6_pick_78 rfl (lv_at hl 2 rfl) ?_
              refine lv_iconst (v := 1) hx hb dX6_pick_79 (by decide) ?_
              refine lv_isub hx hb dX6_pick_80 (lv_topi (fun zi652 ea653 => ?_))
              have bd654 : (1 : Int) ≤ zi652.toInt ∧ zi652.toInt ≤ 11 := b_isub ea653 bd631 bc_1 (by decide) (by decide) (by decide) (by decide)
              have qe655 : zi652.toInt = (zi901 : Int32).toInt - (1 : Int32).toInt := e_isub ea653 bd631 bc_1 (by decide) (by decide)
              have qe656 : zi652.toInt = zi901.toInt - 1 := by have ha : (1 : Int32).toInt = 1 := (by decide); rw [ha] at qe655; exact qe655
              refine lv_iload hx hb dX6_pick_81 (lv_at hl 5 rfl) ?_
              refine lv_lload hx hb dX6_pick_83 (lv_at hl 0 rfl) ?_
              refine kq_i hw hS hA (va_runV (As := [.int zi652, .int zi439, .long wl629]) (rest := []) ⟨hx, hb, hml, hown, hT⟩ (cX6_pick_10 l G cy ev K ln Ls hW _ hp0 ok0 qa900 zi652 zi439 wl629 kd900 (b_wid2 bd654 (by decide) (by decide))) (cwV 3 hT (good_V tb_1277 tb_1274 tb_1276 tb_44 tb_118) rfl rfl rfl (by decide +kernel) ⟨Nat.le_of_ble_eq_true rfl, Nat.le_of_ble_eq_true rfl⟩) (pool_preV (ci := 6) hK hE hS hA hw hW kd900 (by decide) rfl) rfl rfl hl.1 rfl (lv_room (Nat.le_of_ble_eq_true rfl)) dX6_pick_85 ⟨Nat.le_of_ble_eq_true rfl, Nat.le_of_ble_eq_true rfl⟩) (fun zi661 hp657 H locs hq660 hw hS => ?_)
              obtain ⟨ok658, F659⟩ := hq660
              obtain rfl : hp0 = hp657 := (Fr.nil F659).symm
              have hw : PW G cy K ln Ls A hp0 H := hw
              refine lv_istore (lv' := [(8, .int zi661), (6, .long wl629), (0, .ref qa900), (1, .int zi901), (2, .int zi902), (3, .long wl903), (5, .int zi439)]) hx hb dX6_pick_88 hl (by decide) rfl (fun ls hl => ?_)
              refine lv_iload hx hb dX6_pick_90 (lv_at hl 0 rfl) ?_
              refine lv_if_eq (tgt := 108) hx hb dX6_pick_92 (by decide) (fun cn662 => ?_) (fun cn662 => ?_)
              · skip
                have bd663 : (0 : Int) ≤ zi661.toInt ∧ zi661.toInt ≤ 0 := r_eq_x cn662 (b_all zi661) bc_0 (by decide) (by decide)
                obtain ⟨zi664, ea665⟩ : ∃ z : Int32, z = zi439 + 1 := ⟨_, rfl⟩
                have bd666 : (1 : Int) ≤ zi664.toInt ∧ zi664.toInt ≤ 16 := b_iadd ea665 bd622 bc_1 (by decide) (by decide) (by decide) (by decide)
                have qe667 : zi664.toInt = (zi439 : Int32).toInt + (1 : Int32).toInt := e_iadd ea665 bd622 bc_1 (by decide) (by decide)
                have qe668 : zi664.toInt = zi439.toInt + 1 := by have ha : (1 : Int32).toInt = 1 := (by decide); rw [ha] at qe667; exact qe667
                refine lv_iinc (v := zi664) (lv' := [(5, .int zi664), (8, .int zi661), (6, .long wl629), (0, .ref qa900), (1, .int zi901), (2, .int zi902), (3, .long wl903)]) hx hb dX6_pick_108 hl (k := 6) rfl ea665.symm (by decide) rfl (fun ls hl => ?_)
                refine lv_goto (tgt := 5) hx hb dX6_pick_111 (by decide) ?_
                exact ih612 zi664 _ _ ls (by have := hm614; have := qe668; omega) (b_wid2 bd666 (by decide) (by decide)) (lv_sub hl [3, 4, 5, 6, 0] rfl) hw hS
              · skip
                refine lv_iload hx hb dX6_pick_95 (lv_at hl 0 rfl) ?_
                refine lv_iconst (v := 1) hx hb dX6_pick_97 (by decide) ?_
                refine lv_aload_n hx hb dX6_pick_98 rfl (lv_at hl 2 rfl) ?_
                obtain ⟨qa670, eq669, kd671⟩ := rd_7001 ok0 kd900
                refine p_get (ci := 6) (v := .ref qa670) (C := RX6) (T := TX6) (N := 6) hx hb hT iw_X6 hown hK hw hW kd900 (by decide) rfl rfl 1 (by decide) eq669 (hT _ tb_529) (fun _ h9 => h9) dX6_pick_99 ?_
                refine lv_iload hx hb dX6_pick_102 (lv_at hl 6 rfl) ?_
                obtain ⟨zi673, eq672⟩ := rd_38000 ok0 kd671 ((zi439 : Int32).toNatClampNeg)
                refine p_iald (v := zi673) hx hb hK hw hW kd671 (by decide) rfl (hW.len kd671 (n := 16) rfl (by decide)) (vp_b bd622 (by decide) (by decide)) eq672 dX6_pick_104 ?_
                refine lv_ishl hx hb dX6_pick_105 (lv_topi (fun zi674 ea675 => ?_))
                refine lv_ior hx hb dX6_pick_106 (lv_topi (fun zi676 ea677 => ?_))
                rw [hQ]
                exact kz_i hx hb hr hlocks hS rfl hp0 hw ⟨ok0, (Fr.rf)⟩ (Nat.le_of_ble_eq_true rfl) (Nat.le_of_ble_eq_true rfl) dX6_pick_107
          · skip
            have bd678 : (1 : Int) ≤ zi901.toInt ∧ zi901.toInt ≤ 1 := r_eq_x cn630 bd901 bc_1 (by decide) (by decide)
            refine lv_aload_n hx hb dX6_pick_41 rfl (lv_at hl 1 rfl) ?_
            refine lv_lload hx hb dX6_pick_42 (lv_at hl 0 rfl) ?_
            refine kq_i hw hS hA (va_runV (As := [.long wl629]) (rest := []) ⟨hx, hb, hml, hown, hT⟩ (cX6_isEnough_0 l G cy ev K ln Ls hW _ hp0 ok0 qa900 wl629 kd900) (cwV 1 hT (good_V tb_1272 tb_1269 tb_1271 tb_43 tb_118) rfl rfl rfl (by decide +kernel) ⟨Nat.le_of_ble_eq_true rfl, Nat.le_of_ble_eq_true rfl⟩) (pool_preV (ci := 6) hK hE hS hA hw hW kd900 (by decide) rfl) rfl rfl hl.1 rfl (lv_room (Nat.le_of_ble_eq_true rfl)) dX6_pick_44 ⟨Nat.le_of_ble_eq_true rfl, Nat.le_of_ble_eq_true rfl⟩) (fun zi683 hp679 H locs hq682 hw hS => ?_)
            obtain ⟨ok680, F681, bd684⟩ := hq682
            obtain rfl : hp0 = hp679 := (Fr.nil F681).symm
            have hw : PW G cy K ln Ls A hp0 H := hw
            refine lv_if_eq (tgt := 108) hx hb dX6_pick_47 (by decide) (fun cn685 => ?_) (fun cn685 => ?_)
            · skip
              have bd686 : (0 : Int) ≤ zi683.toInt ∧ zi683.toInt ≤ 0 := r_eq_x cn685 bd684 bc_0 (by decide) (by decide)
              obtain ⟨zi687, ea688⟩ : ∃ z : Int32, z = zi439 + 1 := ⟨_, rfl⟩
              have bd689 : (1 : Int) ≤ zi687.toInt ∧ zi687.toInt ≤ 16 := b_iadd ea688 bd622 bc_1 (by decide) (by decide) (by decide) (by decide)
              have qe690 : zi687.toInt = (zi439 : Int32).toInt + (1 : Int32).toInt := e_iadd ea688 bd622 bc_1 (by decide) (by decide)
              have qe691 : zi687.toInt = zi439.toInt + 1 := by have ha : (1 : Int32).toInt = 1 := (by decide); rw [ha] at qe690; exact qe690
              refine lv_iinc (v := zi687) (lv' := [(5, .int zi687), (6, .long wl629), (0, .ref qa900), (1, .int zi901), (2, .int zi902), (3, .long wl903)]) hx hb dX6_pick_108 hl (k := 5) rfl ea688.symm (by decide) rfl (fun ls hl => ?_)
              refine lv_goto (tgt := 5) hx hb dX6_pick_111 (by decide) ?_
              exact ih612 zi687 _ _ ls (by have := hm614; have := qe691; omega) (b_wid2 bd689 (by decide) (by decide)) (lv_sub hl [2, 3, 4, 5, 0] rfl) hw hS
            · skip
              have bd692 : (1 : Int) ≤ zi683.toInt ∧ zi683.toInt ≤ 1 := r_ne_lo cn685 bd684 (toi bc_0) (by decide) (by decide)
              refine lv_iconst (v := 1) hx hb dX6_pick_50 (by decide) ?_
              refine lv_aload_n hx hb dX6_pick_51 rfl (lv_at hl 1 rfl) ?_
              obtain ⟨qa694, eq693, kd695⟩ := rd_7001 ok0 kd900
              refine p_get (ci := 6) (v := .ref qa694) (C := RX6) (T := TX6) (N := 6) hx hb hT iw_X6 hown hK hw hW kd900 (by decide) rfl rfl 1 (by decide) eq693 (hT _ tb_529) (fun _ h9 => h9) dX6_pick_52 ?_
              refine lv_iload hx hb dX6_pick_55 (lv_at hl 5 rfl) ?_
              obtain ⟨zi697, eq696⟩ := rd_38000 ok0 kd695 ((zi439 : Int32).toNatClampNeg)
              refine p_iald (v := zi697) hx hb hK hw hW kd695 (by decide) rfl (hW.len kd695 (n := 16) rfl (by decide)) (vp_b bd622 (by decide) (by decide)) eq696 dX6_pick_57 ?_
              refine lv_ishl hx hb dX6_pick_58 (lv_topi (fun zi698 ea699 => ?_))
              rw [hQ]
              exact kz_i hx hb hr hlocks hS rfl hp0 hw ⟨ok0, (Fr.rf)⟩ (Nat.le_of_ble_eq_true rfl) (Nat.le_of_ble_eq_true rfl) dX6_pick_59
  exact lp613 _ zi1 _ _ ls (lp_in _) (b_wid2 bd3 (by decide) (by decide)) (lv_sub hl [1, 2, 3, 4, 0] rfl) hw hS

set_option maxRecDepth 100000 in
set_option maxHeartbeats 4000000 in
theorem cX6_pick_12 (l : Launch) (G : va_G) (cy : Nat → ClassId) (ev : Ew) (K ln : Nat → Nat) (Ls : List Nat) (hW : SW K ln Ls) (sz : Nat) (hp0 : Nat → Nat → Value) (ok0 : Ok K hp0) (qa900 : Nat) (zi901 : Int32) (zi902 : Int32) (wl903 : Int64) (kd900 : K qa900 = 7) (bd901 : ((1 : Int) ≤ zi901.toInt ∧ zi901.toInt ≤ 13)) : Met l yX6_pick (WS yX6_pick cX6_pick 9 (some .int)) { frames := 13, cells := 0, slots := 0, locals := 358 } (PB2 [.ref qa900, .int zi901, .int zi902, .long wl903] sz G cy ev (va_pl Ls (cellOf cy K ln hp0))) (QBi (S := (Nat → Nat → Value)) (fun (r : Int32) (u : (Nat → Nat → Value)) => Ok K u ∧ Fr [] K hp0 u) G (fun u => va_pl Ls (cellOf cy K ln u)) (va_A (va_pl Ls (cellOf cy K ln hp0)) sz)) 0 0 (va_A (va_pl Ls (cellOf cy K ln hp0)) sz) := by
  refine met_of2 (y := yX6_pick) (L := 9) (av := [.ref qa900, .int zi901, .int zi902, .long wl903]) (Qc := fun A => QBi (S := (Nat → Nat → Value)) (fun (r : Int32) (u : (Nat → Nat → Value)) => Ok K u ∧ Fr [] K hp0 u) G (fun u => va_pl Ls (cellOf cy K ln u)) A) (plainFor_of_name (by decide)) (Nat.le_of_ble_eq_true rfl) ?_
  intro p e s m below meth c hsz hx hb hr hml hown hT hlocks hin hK A hA hE hw hS ls hl
  have hw : PW G cy K ln Ls A hp0 s.heap := hw
  have hown : s.vm.findClass "LieClock$Sets" = some m.cls := hown
  have hl : lv_has ls 9 [(0, .ref qa900), (1, .int zi901), (2, .int zi902), (3, .long wl903)] := hl
  obtain ⟨Q, hQ⟩ : ∃ Q : State → Prop, Q = MQ below (QBi (S := (Nat → Nat → Value)) (fun (r : Int32) (u : (Nat → Nat → Value)) => Ok K u ∧ Fr [] K hp0 u) G (fun u => va_pl Ls (cellOf cy K ln u)) A) ([.ref qa900, .int zi901, .int zi902, .long wl903] : List Value).toArray s 0 0 A := ⟨_, rfl⟩
  rw [← hQ]
  refine lv_iload_n hx hb dX6_pick_0 rfl (lv_at hl 1 rfl) ?_
  refine lv_iconst (v := 1) hx hb dX6_pick_1 (by decide) ?_
  refine lv_isub hx hb dX6_pick_2 (lv_topi (fun zi1 ea2 => ?_))
  have bd3 : (0 : Int) ≤ zi1.toInt ∧ zi1.toInt ≤ 12 := b_isub ea2 bd901 bc_1 (by decide) (by decide) (by decide) (by decide)
  have qe4 : zi1.toInt = (zi901 : Int32).toInt - (1 : Int32).toInt := e_isub ea2 bd901 bc_1 (by decide) (by decide)
  have qe5 : zi1.toInt = zi901.toInt - 1 := by have ha : (1 : Int32).toInt = 1 := (by decide); rw [ha] at qe4; exact qe4
  refine lv_istore (lv' := [(5, .int zi1), (0, .ref qa900), (1, .int zi901), (2, .int zi902), (3, .long wl903)]) hx hb dX6_pick_3 hl (by decide) rfl (fun ls hl => ?_)
  have lp613 : ∀ (n611 : Nat) (zi439 : Int32) (H : Heap) (locs : List Loc) (ls : Array Slot), 16 - zi439.toInt < (n611 : Int) → ((0 : Int) ≤ zi439.toInt ∧ zi439.toInt ≤ 16) → lv_has ls 9 [(0, .ref qa900), (1, .int zi901), (2, .int zi902), (3, .long wl903), (5, .int zi439)] → PW G cy K ln Ls A hp0 H → va_S A s.heap H locs → W p l e ({ frames := 13, cells := 0, slots := 0, locals := 358 } : Room) s m ([.ref qa900, .int zi901, .int zi902, .long wl903] : List Value).toArray below meth c H locs 0 0 Q (F0 m 5 ls []) := by
    intro n611
    induction n611 with
    | zero =>
      intro zi439 H locs ls hm614 bd440 hl hw hS
      exact absurd hm614 (by have := bd440; omega)
    | succ n611 ih612 =>
      intro zi439 H locs ls hm614 bd440 hl hw hS
      refine lv_iload hx hb dX6_pick_5 (lv_at hl 4 rfl) ?_
      refine lv_if_lt (tgt := 114) hx hb dX6_pick_7 (by decide) (fun c => absurd c (d_nlt bd440 bc_0 (by decide))) (fun _ => ?_)
      refine lv_iload hx hb dX6_pick_10 (lv_at hl 4 rfl) ?_
      refine lv_iload_n hx hb dX6_pick_12 rfl (lv_at hl 2 rfl) ?_
      refine lv_icmp_ge (tgt := 114) hx hb dX6_pick_13 (by decide) (fun cn615 => ?_) (fun cn615 => ?_)
      · skip
        have bd616 : (-2147483648 : Int) ≤ zi902.toInt ∧ zi902.toInt ≤ 16 := r_le_x cn615 (b_all zi902) bd440 (by decide) (by decide)
        refine lv_iconst (v := 0) hx hb dX6_pick_114 (by decide) ?_
        rw [hQ]
        exact kz_i hx hb hr hlocks hS rfl hp0 hw ⟨ok0, (Fr.rf)⟩ (Nat.le_of_ble_eq_true rfl) (Nat.le_of_ble_eq_true rfl) dX6_pick_115
      · skip
        have bd617 : (1 : Int) ≤ zi902.toInt ∧ zi902.toInt ≤ 2147483647 := r_lt_y (Int32.not_le.mp cn615) bd440 (b_all zi902) (by decide) (by decide)
        refine lv_iload hx hb dX6_pick_16 (lv_at hl 4 rfl) ?_
        refine lv_aload_n hx hb dX6_pick_18 rfl (lv_at hl 0 rfl) ?_
        obtain ⟨zi619, eq618, bd620⟩ := rd_7003 ok0 kd900
        refine p_get (ci := 6) (v := .int zi619) (C := RX6) (T := TX6) (N := 6) hx hb hT iw_X6 hown hK hw hW kd900 (by decide) rfl rfl 3 (by decide) eq618 (hT _ tb_531) (fun _ h9 => h9) dX6_pick_19 ?_
        refine lv_icmp_ge (tgt := 114) hx hb dX6_pick_22 (by decide) (fun cn621 => ?_) (fun cn621 => ?_)
        · skip
          refine lv_iconst (v := 0) hx hb dX6_pick_114 (by decide) ?_
          rw [hQ]
          exact kz_i hx hb hr hlocks hS rfl hp0 hw ⟨ok0, (Fr.rf)⟩ (Nat.le_of_ble_eq_true rfl) (Nat.le_of_ble_eq_true rfl) dX6_pick_115
        · skip
          have bd622 : (0 : Int) ≤ zi439.toInt ∧ zi439.toInt ≤ 15 := r_lt_x (Int32.not_le.mp cn621) bd440 bd620 (by decide) (by decide)
          have bd623 : (1 : Int) ≤ zi619.toInt ∧ zi619.toInt ≤ 16 := r_lt_y (Int32.not_le.mp cn621) bd440 bd620 (by decide) (by decide)
          refine lv_lload_n hx hb dX6_pick_25 rfl (lv_at hl 3 rfl) ?_
          refine lv_aload_n hx hb dX6_pick_26 rfl (lv_at hl 0 rfl) ?_
          obtain ⟨qa625, eq624, kd626⟩ := rd_7000 ok0 kd900
          refine p_get (ci := 6) (v := .ref qa625) (C := RX6) (T := TX6) (N := 6) hx hb hT iw_X6 hown hK hw hW kd900 (by decide) rfl rfl 0 (by decide) eq624 (hT _ tb_528) (fun _ h9 => h9) dX6_pick_27 ?_
          refine lv_iload hx hb dX6_pick_30 (lv_at hl 4 rfl) ?_
          obtain ⟨wl628, eq627⟩ := rd_37000 ok0 kd626 ((zi439 : Int32).toNatClampNeg)
          refine p_lald (v := wl628) hx hb hK hw hW kd626 (by decide) rfl (hW.len kd626 (n := 16) rfl (by decide)) (vp_b bd622 (by decide) (by decide)) eq627 dX6_pick_32 ?_
          refine lv_land hx hb dX6_pick_33 (lv_topl (fun wl629 _ => ?_))
          refine lv_lstore (lv' := [(6, .long wl629), (0, .ref qa900), (1, .int zi901), (2, .int zi902), (3, .long wl903), (5, .int zi439)]) hx hb dX6_pick_34 hl (by decide) rfl (fun ls hl => ?_)
          refine lv_iload_n hx hb dX6_pick_36 rfl (lv_at hl 2 rfl) ?_
          refine lv_iconst (v := 1) hx hb dX6_pick_37 (by decide) ?_
          refine lv_icmp_ne (tgt := 60) hx hb dX6_pick_38 (by decide) (fun cn630 => ?_) (fun cn630 => ?_)
          · skip
            have bd631 : (2 : Int) ≤ zi901.toInt ∧ zi901.toInt ≤ 13 := r_ne_lo cn630 bd901 (toi bc_1) (by decide) (by decide)
            refine lv_aload_n hx hb dX6_pick_60 rfl (lv_at hl 1 rfl) ?_
            refine lv_lload hx hb dX6_pick_61 (lv_at hl 0 rfl) ?_
            refine lv_aload_n hx hb dX6_pick_63 rfl (lv_at hl 1 rfl) ?_
            obtain ⟨qa633, eq632, kd634⟩ := rd_7002 ok0 kd900
            refine p_get (ci := 6) (v := .ref qa633) (C := RX6) (T := TX6) (N := 6) hx hb hT iw_X6 hown hK hw hW kd900 (by decide) rfl rfl 2 (by decide) eq632 (hT _ tb_530) (fun _ h9 => h9) dX6_pick_64 ?_
            refine lv_iload hx hb dX6_pick_67 (lv_at hl 5 rfl) ?_
            obtain ⟨wl636, eq635⟩ := rd_39000 ok0 kd634 ((zi439 : Int32).toNatClampNeg)
            refine p_lald (v := wl636) hx hb hK hw hW kd634 (by decide) rfl (hW.len kd634 (n := 17) rfl (by decide)) (vp_b bd622 (by decide) (by decide)) eq635 dX6_pick_69 ?_
            refine lv_land hx hb dX6_pick_70 (lv_topl (fun wl637 _ => ?_))
            refine kq_i hw hS hA (va_runV (As := [.long wl637]) (rest := []) ⟨hx, hb, hml, hown, hT⟩ (cX6_isEnough_0 l G cy ev K ln Ls hW _ hp0 ok0 qa900 wl637 kd900) (cwV 1 hT (good_V tb_1272 tb_1269 tb_1271 tb_43 tb_118) rfl rfl rfl (by decide +kernel) ⟨Nat.le_of_ble_eq_true rfl, Nat.le_of_ble_eq_true rfl⟩) (pool_preV (ci := 6) hK hE hS hA hw hW kd900 (by decide) rfl) rfl rfl hl.1 rfl (lv_room (Nat.le_of_ble_eq_true rfl)) dX6_pick_71 ⟨Nat.le_of_ble_eq_true rfl, Nat.le_of_ble_eq_true rfl⟩) (fun zi642 hp638 H locs hq641 hw hS => ?_)
            obtain ⟨ok639, F640, bd643⟩ := hq641
            obtain rfl : hp0 = hp638 := (Fr.nil F640).symm
            have hw : PW G cy K ln Ls A hp0 H := hw
            refine lv_if_eq (tgt := 108) hx hb dX6_pick_74 (by decide) (fun cn644 => ?_) (fun cn644 => ?_)
            · skip
              have bd645 : (0 : Int) ≤ zi642.toInt ∧ zi642.toInt ≤ 0 := r_eq_x cn644 bd643 bc_0 (by decide) (by decide)
              obtain ⟨zi646, ea647⟩ : ∃ z : Int32, z = zi439 + 1 := ⟨_, rfl⟩
              have bd648 : (1 : Int) ≤ zi646.toInt ∧ zi646.toInt ≤ 16 := b_iadd ea647 bd622 bc_1 (by decide) (by decide) (by decide) (by decide)
              have qe649 : zi646.toInt = (zi439 : Int32).toInt + (1 : Int32).toInt := e_iadd ea647 bd622 bc_1 (by decide) (by decide)
              have qe650 : zi646.toInt = zi439.toInt + 1 := by have ha : (1 : Int32).toInt = 1 := (by decide); rw [ha] at qe649; exact qe649
              refine lv_iinc (v := zi646) (lv' := [(5, .int zi646), (6, .long wl629), (0, .ref qa900), (1, .int zi901), (2, .int zi902), (3, .long wl903)]) hx hb dX6_pick_108 hl (k := 5) rfl ea647.symm (by decide) rfl (fun ls hl => ?_)
              refine lv_goto (tgt := 5) hx hb dX6_pick_111 (by decide) ?_
              exact ih612 zi646 _ _ ls (by have := hm614; have := qe650; omega) (b_wid2 bd648 (by decide) (by decide)) (lv_sub hl [2, 3, 4, 5, 0] rfl) hw hS
            · skip
              have bd651 : (1 : Int) ≤ zi642.toInt ∧ zi642.toInt ≤ 1 := r_ne_lo cn644 bd643 (toi bc_0) (by decide) (by decide)
              refine lv_aload_n hx hb dX6_pick_77 rfl (lv_at hl 1 rfl) ?_
              refine lv_iload_n hx hb dX6_pick_78 rfl (lv_at hl 2 rfl) ?_
              refine lv_iconst (v := 1) hx hb dX6_pick_79 (by decide) ?_
              refine lv_isub hx hb dX6_pick_80 (lv_topi (fun zi652 ea653 => ?_))
              have bd654 : (1 : Int) ≤ zi652.toInt ∧ zi652.toInt ≤ 12 := b_isub ea653 bd631 bc_1 (by decide) (by decide) (by decide) (by decide)
              have qe655 : zi652.toInt = (zi901 : Int32).toInt - (1 : Int32).toInt := e_isub ea653 bd631 bc_1 (by decide) (by decide)
              have qe656 : zi652.toInt = zi901.toInt - 1 := by have ha : (1 : Int32).toInt = 1 := (by decide); rw [ha] at qe655; exact qe655
              refine lv_iload hx hb dX6_pick_81 (lv_at hl 5 rfl) ?_
              refine lv_lload hx hb dX6_pick_83 (lv_at hl 0 rfl) ?_
              refine kq_i hw hS hA (va_runV (As := [.int zi652, .int zi439, .long wl629]) (rest := []) ⟨hx, hb, hml, hown, hT⟩ (cX6_pick_11 l G cy ev K ln Ls hW _ hp0 ok0 qa900 zi652 zi439 wl629 kd900 (b_wid2 bd654 (by decide) (by decide))) (cwV 3 hT (good_V tb_1277 tb_1274 tb_1276 tb_44 tb_118) rfl rfl rfl (by decide +kernel) ⟨Nat.le_of_ble_eq_true rfl, Nat.le_of_ble_eq_true rfl⟩) (pool_preV (ci := 6) hK hE hS hA hw hW kd900 (by decide) rfl) rfl rfl hl.1 rfl (lv_room (Nat.le_of_ble_eq_true rfl)) dX6_pick_85 ⟨Nat.le_of_ble_eq_true rfl, Nat.le_of_ble_eq_true rfl⟩) (fun zi661 hp657 H locs hq660 hw hS => ?_)
              obtain ⟨ok658, F659⟩ := hq660
              obtain rfl : hp0 = hp657 := (Fr.nil F659).symm
              have hw : PW G cy K ln Ls A hp0 H := hw
              refine lv_istore (lv' := [(8, .int zi661), (6, .long wl629), (0, .ref qa900), (1, .int zi901), (2, .int zi902), (3, .long wl903), (5, .int zi439)]) hx hb dX6_pick_88 hl (by decide) rfl (fun ls hl => ?_)
              refine lv_iload hx hb dX6_pick_90 (lv_at hl 0 rfl) ?_
              refine lv_if_eq (tgt := 108) hx hb dX6_pick_92 (by decide) (fun cn662 => ?_) (fun cn662 => ?_)
              · skip
                have bd663 : (0 : Int) ≤ zi661.toInt ∧ zi661.toInt ≤ 0 := r_eq_x cn662 (b_all zi661) bc_0 (by decide) (by decide)
                obtain ⟨zi664, ea665⟩ : ∃ z : Int32, z = zi439 + 1 := ⟨_, rfl⟩
                have bd666 : (1 : Int) ≤ zi664.toInt ∧ zi664.toInt ≤ 16 := b_iadd ea665 bd622 bc_1 (by decide) (by decide) (by decide) (by decide)
                have qe667 : zi664.toInt = (zi439 : Int32).toInt + (1 : Int32).toInt := e_iadd ea665 bd622 bc_1 (by decide) (by decide)
                have qe668 : zi664.toInt = zi439.toInt + 1 := by have ha : (1 : Int32).toInt = 1 := (by decide); rw [ha] at qe667; exact qe667
                refine lv_iinc (v := zi664) (lv' := [(5, .int zi664), (8, .int zi661), (6, .long wl629), (0, .ref qa900), (1, .int zi901), (2, .int zi902), (3, .long wl903)]) hx hb dX6_pick_108 hl (k := 6) rfl ea665.symm (by decide) rfl (fun ls hl => ?_)
                refine lv_goto (tgt := 5) hx hb dX6_pick_111 (by decide) ?_
                exact ih612 zi664 _ _ ls (by have := hm614; have := qe668; omega) (b_wid2 bd666 (by decide) (by decide)) (lv_sub hl [3, 4, 5, 6, 0] rfl) hw hS
              · skip
                refine lv_iload hx hb dX6_pick_95 (lv_at hl 0 rfl) ?_
                refine lv_iconst (v := 1) hx hb dX6_pick_97 (by decide) ?_
                refine lv_aload_n hx hb dX6_pick_98 rfl (lv_at hl 2 rfl) ?_
                obtain ⟨qa670, eq669, kd671⟩ := rd_7001 ok0 kd900
                refine p_get (ci := 6) (v := .ref qa670) (C := RX6) (T := TX6) (N := 6) hx hb hT iw_X6 hown hK hw hW kd900 (by decide) rfl rfl 1 (by decide) eq669 (hT _ tb_529) (fun _ h9 => h9) dX6_pick_99 ?_
                refine lv_iload hx hb dX6_pick_102 (lv_at hl 6 rfl) ?_
                obtain ⟨zi673, eq672⟩ := rd_38000 ok0 kd671 ((zi439 : Int32).toNatClampNeg)
                refine p_iald (v := zi673) hx hb hK hw hW kd671 (by decide) rfl (hW.len kd671 (n := 16) rfl (by decide)) (vp_b bd622 (by decide) (by decide)) eq672 dX6_pick_104 ?_
                refine lv_ishl hx hb dX6_pick_105 (lv_topi (fun zi674 ea675 => ?_))
                refine lv_ior hx hb dX6_pick_106 (lv_topi (fun zi676 ea677 => ?_))
                rw [hQ]
                exact kz_i hx hb hr hlocks hS rfl hp0 hw ⟨ok0, (Fr.rf)⟩ (Nat.le_of_ble_eq_true rfl) (Nat.le_of_ble_eq_true rfl) dX6_pick_107
          · skip
            have bd678 : (1 : Int) ≤ zi901.toInt ∧ zi901.toInt ≤ 1 := r_eq_x cn630 bd901 bc_1 (by decide) (by decide)
            refine lv_aload_n hx hb dX6_pick_41 rfl (lv_at hl 1 rfl) ?_
            refine lv_lload hx hb dX6_pick_42 (lv_at hl 0 rfl) ?_
            refine kq_i hw hS hA (va_runV (As := [.long wl629]) (rest := []) ⟨hx, hb, hml, hown, hT⟩ (cX6_isEnough_0 l G cy ev K ln Ls hW _ hp0 ok0 qa900 wl629 kd900) (cwV 1 hT (good_V tb_1272 tb_1269 tb_1271 tb_43 tb_118) rfl rfl rfl (by decide +kernel) ⟨Nat.le_of_ble_eq_true rfl, Nat.le_of_ble_eq_true rfl⟩) (pool_preV (ci := 6) hK hE hS hA hw hW kd900 (by decide) rfl) rfl rfl hl.1 rfl (lv_room (Nat.le_of_ble_eq_true rfl)) dX6_pick_44 ⟨Nat.le_of_ble_eq_true rfl, Nat.le_of_ble_eq_true rfl⟩) (fun zi683 hp679 H locs hq682 hw hS => ?_)
            obtain ⟨ok680, F681, bd684⟩ := hq682
            obtain rfl : hp0 = hp679 := (Fr.nil F681).symm
            have hw : PW G cy K ln Ls A hp0 H := hw
            refine lv_if_eq (tgt := 108) hx hb dX6_pick_47 (by decide) (fun cn685 => ?_) (fun cn685 => ?_)
            · skip
              have bd686 : (0 : Int) ≤ zi683.toInt ∧ zi683.toInt ≤ 0 := r_eq_x cn685 bd684 bc_0 (by decide) (by decide)
              obtain ⟨zi687, ea688⟩ : ∃ z : Int32, z = zi439 + 1 := ⟨_, rfl⟩
              have bd689 : (1 : Int) ≤ zi687.toInt ∧ zi687.toInt ≤ 16 := b_iadd ea688 bd622 bc_1 (by decide) (by decide) (by decide) (by decide)
              have qe690 : zi687.toInt = (zi439 : Int32).toInt + (1 : Int32).toInt := e_iadd ea688 bd622 bc_1 (by decide) (by decide)
              have qe691 : zi687.toInt = zi439.toInt + 1 := by have ha : (1 : Int32).toInt = 1 := (by decide); rw [ha] at qe690; exact qe690
              refine lv_iinc (v := zi687) (lv' := [(5, .int zi687), (6, .long wl629), (0, .ref qa900), (1, .int zi901), (2, .int zi902), (3, .long wl903)]) hx hb dX6_pick_108 hl (k := 5) rfl ea688.symm (by decide) rfl (fun ls hl => ?_)
              refine lv_goto (tgt := 5) hx hb dX6_pick_111 (by decide) ?_
              exact ih612 zi687 _ _ ls (by have := hm614; have := qe691; omega) (b_wid2 bd689 (by decide) (by decide)) (lv_sub hl [2, 3, 4, 5, 0] rfl) hw hS
            · skip
              have bd692 : (1 : Int) ≤ zi683.toInt ∧ zi683.toInt ≤ 1 := r_ne_lo cn685 bd684 (toi bc_0) (by decide) (by decide)
              refine lv_iconst (v := 1) hx hb dX6_pick_50 (by decide) ?_
              refine lv_aload_n hx hb dX6_pick_51 rfl (lv_at hl 1 rfl) ?_
              obtain ⟨qa694, eq693, kd695⟩ := rd_7001 ok0 kd900
              refine p_get (ci := 6) (v := .ref qa694) (C := RX6) (T := TX6) (N := 6) hx hb hT iw_X6 hown hK hw hW kd900 (by decide) rfl rfl 1 (by decide) eq693 (hT _ tb_529) (fun _ h9 => h9) dX6_pick_52 ?_
              refine lv_iload hx hb dX6_pick_55 (lv_at hl 5 rfl) ?_
              obtain ⟨zi697, eq696⟩ := rd_38000 ok0 kd695 ((zi439 : Int32).toNatClampNeg)
              refine p_iald (v := zi697) hx hb hK hw hW kd695 (by decide) rfl (hW.len kd695 (n := 16) rfl (by decide)) (vp_b bd622 (by decide) (by decide)) eq696 dX6_pick_57 ?_
              refine lv_ishl hx hb dX6_pick_58 (lv_topi (fun zi698 ea699 => ?_))
              rw [hQ]
              exact kz_i hx hb hr hlocks hS rfl hp0 hw ⟨ok0, (Fr.rf)⟩ (Nat.le_of_ble_eq_true rfl) (Nat.le_of_ble_eq_true rfl) dX6_pick_59
  exact lp613 _ zi1 _ _ ls (lp_in _) (b_wid2 bd3 (by decide) (by decide)) (lv_sub hl [1, 2, 3, 4, 0] rfl) hw hS

set_option maxRecDepth 100000 in
set_option maxHeartbeats 4000000 in
theorem cX6_pick_13 (l : Launch) (G : va_G) (cy : Nat → ClassId) (ev : Ew) (K ln : Nat → Nat) (Ls : List Nat) (hW : SW K ln Ls) (sz : Nat) (hp0 : Nat → Nat → Value) (ok0 : Ok K hp0) (qa900 : Nat) (zi901 : Int32) (zi902 : Int32) (wl903 : Int64) (kd900 : K qa900 = 7) (bd901 : ((1 : Int) ≤ zi901.toInt ∧ zi901.toInt ≤ 14)) : Met l yX6_pick (WS yX6_pick cX6_pick 9 (some .int)) { frames := 14, cells := 0, slots := 0, locals := 386 } (PB2 [.ref qa900, .int zi901, .int zi902, .long wl903] sz G cy ev (va_pl Ls (cellOf cy K ln hp0))) (QBi (S := (Nat → Nat → Value)) (fun (r : Int32) (u : (Nat → Nat → Value)) => Ok K u ∧ Fr [] K hp0 u) G (fun u => va_pl Ls (cellOf cy K ln u)) (va_A (va_pl Ls (cellOf cy K ln hp0)) sz)) 0 0 (va_A (va_pl Ls (cellOf cy K ln hp0)) sz) := by
  refine met_of2 (y := yX6_pick) (L := 9) (av := [.ref qa900, .int zi901, .int zi902, .long wl903]) (Qc := fun A => QBi (S := (Nat → Nat → Value)) (fun (r : Int32) (u : (Nat → Nat → Value)) => Ok K u ∧ Fr [] K hp0 u) G (fun u => va_pl Ls (cellOf cy K ln u)) A) (plainFor_of_name (by decide)) (Nat.le_of_ble_eq_true rfl) ?_
  intro p e s m below meth c hsz hx hb hr hml hown hT hlocks hin hK A hA hE hw hS ls hl
  have hw : PW G cy K ln Ls A hp0 s.heap := hw
  have hown : s.vm.findClass "LieClock$Sets" = some m.cls := hown
  have hl : lv_has ls 9 [(0, .ref qa900), (1, .int zi901), (2, .int zi902), (3, .long wl903)] := hl
  obtain ⟨Q, hQ⟩ : ∃ Q : State → Prop, Q = MQ below (QBi (S := (Nat → Nat → Value)) (fun (r : Int32) (u : (Nat → Nat → Value)) => Ok K u ∧ Fr [] K hp0 u) G (fun u => va_pl Ls (cellOf cy K ln u)) A) ([.ref qa900, .int zi901, .int zi902, .long wl903] : List Value).toArray s 0 0 A := ⟨_, rfl⟩
  rw [← hQ]
  refine lv_iload_n hx hb dX6_pick_0 rfl (lv_at hl 1 rfl) ?_
  refine lv_iconst (v := 1) hx hb dX6_pick_1 (by decide) ?_
  refine lv_isub hx hb dX6_pick_2 (lv_topi (fun zi1 ea2 => ?_))
  have bd3 : (0 : Int) ≤ zi1.toInt ∧ zi1.toInt ≤ 13 := b_isub ea2 bd901 bc_1 (by decide) (by decide) (by decide) (by decide)
  have qe4 : zi1.toInt = (zi901 : Int32).toInt - (1 : Int32).toInt := e_isub ea2 bd901 bc_1 (by decide) (by decide)
  have qe5 : zi1.toInt = zi901.toInt - 1 := by have ha : (1 : Int32).toInt = 1 := (by decide); rw [ha] at qe4; exact qe4
  refine lv_istore (lv' := [(5, .int zi1), (0, .ref qa900), (1, .int zi901), (2, .int zi902), (3, .long wl903)]) hx hb dX6_pick_3 hl (by decide) rfl (fun ls hl => ?_)
  have lp613 : ∀ (n611 : Nat) (zi439 : Int32) (H : Heap) (locs : List Loc) (ls : Array Slot), 16 - zi439.toInt < (n611 : Int) → ((0 : Int) ≤ zi439.toInt ∧ zi439.toInt ≤ 16) → lv_has ls 9 [(0, .ref qa900), (1, .int zi901), (2, .int zi902), (3, .long wl903), (5, .int zi439)] → PW G cy K ln Ls A hp0 H → va_S A s.heap H locs → W p l e ({ frames := 14, cells := 0, slots := 0, locals := 386 } : Room) s m ([.ref qa900, .int zi901, .int zi902, .long wl903] : List Value).toArray below meth c H locs 0 0 Q (F0 m 5 ls []) := by
    intro n611
    induction n611 with
    | zero =>
      intro zi439 H locs ls hm614 bd440 hl hw hS
      exact absurd hm614 (by have := bd440; omega)
    | succ n611 ih612 =>
      intro zi439 H locs ls hm614 bd440 hl hw hS
      refine lv_iload hx hb dX6_pick_5 (lv_at hl 4 rfl) ?_
      refine lv_if_lt (tgt := 114) hx hb dX6_pick_7 (by decide) (fun c => absurd c (d_nlt bd440 bc_0 (by decide))) (fun _ => ?_)
      refine lv_iload hx hb dX6_pick_10 (lv_at hl 4 rfl) ?_
      refine lv_iload_n hx hb dX6_pick_12 rfl (lv_at hl 2 rfl) ?_
      refine lv_icmp_ge (tgt := 114) hx hb dX6_pick_13 (by decide) (fun cn615 => ?_) (fun cn615 => ?_)
      · skip
        have bd616 : (-2147483648 : Int) ≤ zi902.toInt ∧ zi902.toInt ≤ 16 := r_le_x cn615 (b_all zi902) bd440 (by decide) (by decide)
        refine lv_iconst (v := 0) hx hb dX6_pick_114 (by decide) ?_
        rw [hQ]
        exact kz_i hx hb hr hlocks hS rfl hp0 hw ⟨ok0, (Fr.rf)⟩ (Nat.le_of_ble_eq_true rfl) (Nat.le_of_ble_eq_true rfl) dX6_pick_115
      · skip
        have bd617 : (1 : Int) ≤ zi902.toInt ∧ zi902.toInt ≤ 2147483647 := r_lt_y (Int32.not_le.mp cn615) bd440 (b_all zi902) (by decide) (by decide)
        refine lv_iload hx hb dX6_pick_16 (lv_at hl 4 rfl) ?_
        refine lv_aload_n hx hb dX6_pick_18 rfl (lv_at hl 0 rfl) ?_
        obtain ⟨zi619, eq618, bd620⟩ := rd_7003 ok0 kd900
        refine p_get (ci := 6) (v := .int zi619) (C := RX6) (T := TX6) (N := 6) hx hb hT iw_X6 hown hK hw hW kd900 (by decide) rfl rfl 3 (by decide) eq618 (hT _ tb_531) (fun _ h9 => h9) dX6_pick_19 ?_
        refine lv_icmp_ge (tgt := 114) hx hb dX6_pick_22 (by decide) (fun cn621 => ?_) (fun cn621 => ?_)
        · skip
          refine lv_iconst (v := 0) hx hb dX6_pick_114 (by decide) ?_
          rw [hQ]
          exact kz_i hx hb hr hlocks hS rfl hp0 hw ⟨ok0, (Fr.rf)⟩ (Nat.le_of_ble_eq_true rfl) (Nat.le_of_ble_eq_true rfl) dX6_pick_115
        · skip
          have bd622 : (0 : Int) ≤ zi439.toInt ∧ zi439.toInt ≤ 15 := r_lt_x (Int32.not_le.mp cn621) bd440 bd620 (by decide) (by decide)
          have bd623 : (1 : Int) ≤ zi619.toInt ∧ zi619.toInt ≤ 16 := r_lt_y (Int32.not_le.mp cn621) bd440 bd620 (by decide) (by decide)
          refine lv_lload_n hx hb dX6_pick_25 rfl (lv_at hl 3 rfl) ?_
          refine lv_aload_n hx hb dX6_pick_26 rfl (lv_at hl 0 rfl) ?_
          obtain ⟨qa625, eq624, kd626⟩ := rd_7000 ok0 kd900
          refine p_get (ci := 6) (v := .ref qa625) (C := RX6) (T := TX6) (N := 6) hx hb hT iw_X6 hown hK hw hW kd900 (by decide) rfl rfl 0 (by decide) eq624 (hT _ tb_528) (fun _ h9 => h9) dX6_pick_27 ?_
          refine lv_iload hx hb dX6_pick_30 (lv_at hl 4 rfl) ?_
          obtain ⟨wl628, eq627⟩ := rd_37000 ok0 kd626 ((zi439 : Int32).toNatClampNeg)
          refine p_lald (v := wl628) hx hb hK hw hW kd626 (by decide) rfl (hW.len kd626 (n := 16) rfl (by decide)) (vp_b bd622 (by decide) (by decide)) eq627 dX6_pick_32 ?_
          refine lv_land hx hb dX6_pick_33 (lv_topl (fun wl629 _ => ?_))
          refine lv_lstore (lv' := [(6, .long wl629), (0, .ref qa900), (1, .int zi901), (2, .int zi902), (3, .long wl903), (5, .int zi439)]) hx hb dX6_pick_34 hl (by decide) rfl (fun ls hl => ?_)
          refine lv_iload_n hx hb dX6_pick_36 rfl (lv_at hl 2 rfl) ?_
          refine lv_iconst (v := 1) hx hb dX6_pick_37 (by decide) ?_
          refine lv_icmp_ne (tgt := 60) hx hb dX6_pick_38 (by decide) (fun cn630 => ?_) (fun cn630 => ?_)
          · skip
            have bd631 : (2 : Int) ≤ zi901.toInt ∧ zi901.toInt ≤ 14 := r_ne_lo cn630 bd901 (toi bc_1) (by decide) (by decide)
            refine lv_aload_n hx hb dX6_pick_60 rfl (lv_at hl 1 rfl) ?_
            refine lv_lload hx hb dX6_pick_61 (lv_at hl 0 rfl) ?_
            refine lv_aload_n hx hb dX6_pick_63 rfl (lv_at hl 1 rfl) ?_
            obtain ⟨qa633, eq632, kd634⟩ := rd_7002 ok0 kd900
            refine p_get (ci := 6) (v := .ref qa633) (C := RX6) (T := TX6) (N := 6) hx hb hT iw_X6 hown hK hw hW kd900 (by decide) rfl rfl 2 (by decide) eq632 (hT _ tb_530) (fun _ h9 => h9) dX6_pick_64 ?_
            refine lv_iload hx hb dX6_pick_67 (lv_at hl 5 rfl) ?_
            obtain ⟨wl636, eq635⟩ := rd_39000 ok0 kd634 ((zi439 : Int32).toNatClampNeg)
            refine p_lald (v := wl636) hx hb hK hw hW kd634 (by decide) rfl (hW.len kd634 (n := 17) rfl (by decide)) (vp_b bd622 (by decide) (by decide)) eq635 dX6_pick_69 ?_
            refine lv_land hx hb dX6_pick_70 (lv_topl (fun wl637 _ => ?_))
            refine kq_i hw hS hA (va_runV (As := [.long wl637]) (rest := []) ⟨hx, hb, hml, hown, hT⟩ (cX6_isEnough_0 l G cy ev K ln Ls hW _ hp0 ok0 qa900 wl637 kd900) (cwV 1 hT (good_V tb_1272 tb_1269 tb_1271 tb_43 tb_118) rfl rfl rfl (by decide +kernel) ⟨Nat.le_of_ble_eq_true rfl, Nat.le_of_ble_eq_true rfl⟩) (pool_preV (ci := 6) hK hE hS hA hw hW kd900 (by decide) rfl) rfl rfl hl.1 rfl (lv_room (Nat.le_of_ble_eq_true rfl)) dX6_pick_71 ⟨Nat.le_of_ble_eq_true rfl, Nat.le_of_ble_eq_true rfl⟩) (fun zi642 hp638 H locs hq641 hw hS => ?_)
            obtain ⟨ok639, F640, bd643⟩ := hq641
            obtain rfl : hp0 = hp638 := (Fr.nil F640).symm
            have hw : PW G cy K ln Ls A hp0 H := hw
            refine lv_if_eq (tgt := 108) hx hb dX6_pick_74 (by decide) (fun cn644 => ?_) (fun cn644 => ?_)
            · skip
              have bd645 : (0 : Int) ≤ zi642.toInt ∧ zi642.toInt ≤ 0 := r_eq_x cn644 bd643 bc_0 (by decide) (by decide)
              obtain ⟨zi646, ea647⟩ : ∃ z : Int32, z = zi439 + 1 := ⟨_, rfl⟩
              have bd648 : (1 : Int) ≤ zi646.toInt ∧ zi646.toInt ≤ 16 := b_iadd ea647 bd622 bc_1 (by decide) (by decide) (by decide) (by decide)
              have qe649 : zi646.toInt = (zi439 : Int32).toInt + (1 : Int32).toInt := e_iadd ea647 bd622 bc_1 (by decide) (by decide)
              have qe650 : zi646.toInt = zi439.toInt + 1 := by have ha : (1 : Int32).toInt = 1 := (by decide); rw [ha] at qe649; exact qe649
              refine lv_iinc (v := zi646) (lv' := [(5, .int zi646), (6, .long wl629), (0, .ref qa900), (1, .int zi901), (2, .int zi902), (3, .long wl903)]) hx hb dX6_pick_108 hl (k := 5) rfl ea647.symm (by decide) rfl (fun ls hl => ?_)
              refine lv_goto (tgt := 5) hx hb dX6_pick_111 (by decide) ?_
              exact ih612 zi646 _ _ ls (by have := hm614; have := qe650; omega) (b_wid2 bd648 (by decide) (by decide)) (lv_sub hl [2, 3, 4, 5, 0] rfl) hw hS
            · skip
              have bd651 : (1 : Int) ≤ zi642.toInt ∧ zi642.toInt ≤ 1 := r_ne_lo cn644 bd643 (toi bc_0) (by decide) (by decide)
              refine lv_aload_n hx hb dX6_pick_77 rfl (lv_at hl 1 rfl) ?_
              refine lv_iload_n hx hb dX6_pick_78 rfl (lv_at hl 2 rfl) ?_
              refine lv_iconst (v := 1) hx hb dX6_pick_79 (by decide) ?_
              refine lv_isub hx hb dX6_pick_80 (lv_topi (fun zi652 ea653 => ?_))
              have bd654 : (1 : Int) ≤ zi652.toInt ∧ zi652.toInt ≤ 13 := b_isub ea653 bd631 bc_1 (by decide) (by decide) (by decide) (by decide)
              have qe655 : zi652.toInt = (zi901 : Int32).toInt - (1 : Int32).toInt := e_isub ea653 bd631 bc_1 (by decide) (by decide)
              have qe656 : zi652.toInt = zi901.toInt - 1 := by have ha : (1 : Int32).toInt = 1 := (by decide); rw [ha] at qe655; exact qe655
              refine lv_iload hx hb dX6_pick_81 (lv_at hl 5 rfl) ?_
              refine lv_lload hx hb dX6_pick_83 (lv_at hl 0 rfl) ?_
              refine kq_i hw hS hA (va_runV (As := [.int zi652, .int zi439, .long wl629]) (rest := []) ⟨hx, hb, hml, hown, hT⟩ (cX6_pick_12 l G cy ev K ln Ls hW _ hp0 ok0 qa900 zi652 zi439 wl629 kd900 (b_wid2 bd654 (by decide) (by decide))) (cwV 3 hT (good_V tb_1277 tb_1274 tb_1276 tb_44 tb_118) rfl rfl rfl (by decide +kernel) ⟨Nat.le_of_ble_eq_true rfl, Nat.le_of_ble_eq_true rfl⟩) (pool_preV (ci := 6) hK hE hS hA hw hW kd900 (by decide) rfl) rfl rfl hl.1 rfl (lv_room (Nat.le_of_ble_eq_true rfl)) dX6_pick_85 ⟨Nat.le_of_ble_eq_true rfl, Nat.le_of_ble_eq_true rfl⟩) (fun zi661 hp657 H locs hq660 hw hS => ?_)
              obtain ⟨ok658, F659⟩ := hq660
              obtain rfl : hp0 = hp657 := (Fr.nil F659).symm
              have hw : PW G cy K ln Ls A hp0 H := hw
              refine lv_istore (lv' := [(8, .int zi661), (6, .long wl629), (0, .ref qa900), (1, .int zi901), (2, .int zi902), (3, .long wl903), (5, .int zi439)]) hx hb dX6_pick_88 hl (by decide) rfl (fun ls hl => ?_)
              refine lv_iload hx hb dX6_pick_90 (lv_at hl 0 rfl) ?_
              refine lv_if_eq (tgt := 108) hx hb dX6_pick_92 (by decide) (fun cn662 => ?_) (fun cn662 => ?_)
              · skip
                have bd663 : (0 : Int) ≤ zi661.toInt ∧ zi661.toInt ≤ 0 := r_eq_x cn662 (b_all zi661) bc_0 (by decide) (by decide)
                obtain ⟨zi664, ea665⟩ : ∃ z : Int32, z = zi439 + 1 := ⟨_, rfl⟩
                have bd666 : (1 : Int) ≤ zi664.toInt ∧ zi664.toInt ≤ 16 := b_iadd ea665 bd622 bc_1 (by decide) (by decide) (by decide) (by decide)
                have qe667 : zi664.toInt = (zi439 : Int32).toInt + (1 : Int32).toInt := e_iadd ea665 bd622 bc_1 (by decide) (by decide)
                have qe668 : zi664.toInt = zi439.toInt + 1 := by have ha : (1 : Int32).toInt = 1 := (by decide); rw [ha] at qe667; exact qe667
                refine lv_iinc (v := zi664) (lv' := [(5, .int zi664), (8, .int zi661), (6, .long wl629), (0, .ref qa900), (1, .int zi901), (2, .int zi902), (3, .long wl903)]) hx hb dX6_pick_108 hl (k := 6) rfl ea665.symm (by decide) rfl (fun ls hl => ?_)
                refine lv_goto (tgt := 5) hx hb dX6_pick_111 (by decide) ?_
                exact ih612 zi664 _ _ ls (by have := hm614; have := qe668; omega) (b_wid2 bd666 (by decide) (by decide)) (lv_sub hl [3, 4, 5, 6, 0] rfl) hw hS
              · skip
                refine lv_iload hx hb dX6_pick_95 (lv_at hl 0 rfl) ?_
                refine lv_iconst (v := 1) hx hb dX6_pick_97 (by decide) ?_
                refine lv_aload_n hx hb dX6_pick_98 rfl (lv_at hl 2 rfl) ?_
                obtain ⟨qa670, eq669, kd671⟩ := rd_7001 ok0 kd900
                refine p_get (ci := 6) (v := .ref qa670) (C := RX6) (T := TX6) (N := 6) hx hb hT iw_X6 hown hK hw hW kd900 (by decide) rfl rfl 1 (by decide) eq669 (hT _ tb_529) (fun _ h9 => h9) dX6_pick_99 ?_
                refine lv_iload hx hb dX6_pick_102 (lv_at hl 6 rfl) ?_
                obtain ⟨zi673, eq672⟩ := rd_38000 ok0 kd671 ((zi439 : Int32).toNatClampNeg)
                refine p_iald (v := zi673) hx hb hK hw hW kd671 (by decide) rfl (hW.len kd671 (n := 16) rfl (by decide)) (vp_b bd622 (by decide) (by decide)) eq672 dX6_pick_104 ?_
                refine lv_ishl hx hb dX6_pick_105 (lv_topi (fun zi674 ea675 => ?_))
                refine lv_ior hx hb dX6_pick_106 (lv_topi (fun zi676 ea677 => ?_))
                rw [hQ]
                exact kz_i hx hb hr hlocks hS rfl hp0 hw ⟨ok0, (Fr.rf)⟩ (Nat.le_of_ble_eq_true rfl) (Nat.le_of_ble_eq_true rfl) dX6_pick_107
          · skip
            have bd678 : (1 : Int) ≤ zi901.toInt ∧ zi901.toInt ≤ 1 := r_eq_x cn630 bd901 bc_1 (by decide) (by decide)
            refine lv_aload_n hx hb dX6_pick_41 rfl (lv_at hl 1 rfl) ?_
            refine lv_lload hx hb dX6_pick_42 (lv_at hl 0 rfl) ?_
            refine kq_i hw hS hA (va_runV (As := [.long wl629]) (rest := []) ⟨hx, hb, hml, hown, hT⟩ (cX6_isEnough_0 l G cy ev K ln Ls hW _ hp0 ok0 qa900 wl629 kd900) (cwV 1 hT (good_V tb_1272 tb_1269 tb_1271 tb_43 tb_118) rfl rfl rfl (by decide +kernel) ⟨Nat.le_of_ble_eq_true rfl, Nat.le_of_ble_eq_true rfl⟩) (pool_preV (ci := 6) hK hE hS hA hw hW kd900 (by decide) rfl) rfl rfl hl.1 rfl (lv_room (Nat.le_of_ble_eq_true rfl)) dX6_pick_44 ⟨Nat.le_of_ble_eq_true rfl, Nat.le_of_ble_eq_true rfl⟩) (fun zi683 hp679 H locs hq682 hw hS => ?_)
            obtain ⟨ok680, F681, bd684⟩ := hq682
            obtain rfl : hp0 = hp679 := (Fr.nil F681).symm
            have hw : PW G cy K ln Ls A hp0 H := hw
            refine lv_if_eq (tgt := 108) hx hb dX6_pick_47 (by decide) (fun cn685 => ?_) (fun cn685 => ?_)
            · skip
              have bd686 : (0 : Int) ≤ zi683.toInt ∧ zi683.toInt ≤ 0 := r_eq_x cn685 bd684 bc_0 (by decide) (by decide)
              obtain ⟨zi687, ea688⟩ : ∃ z : Int32, z = zi439 + 1 := ⟨_, rfl⟩
              have bd689 : (1 : Int) ≤ zi687.toInt ∧ zi687.toInt ≤ 16 := b_iadd ea688 bd622 bc_1 (by decide) (by decide) (by decide) (by decide)
              have qe690 : zi687.toInt = (zi439 : Int32).toInt + (1 : Int32).toInt := e_iadd ea688 bd622 bc_1 (by decide) (by decide)
              have qe691 : zi687.toInt = zi439.toInt + 1 := by have ha : (1 : Int32).toInt = 1 := (by decide); rw [ha] at qe690; exact qe690
              refine lv_iinc (v := zi687) (lv' := [(5, .int zi687), (6, .long wl629), (0, .ref qa900), (1, .int zi901), (2, .int zi902), (3, .long wl903)]) hx hb dX6_pick_108 hl (k := 5) rfl ea688.symm (by decide) rfl (fun ls hl => ?_)
              refine lv_goto (tgt := 5) hx hb dX6_pick_111 (by decide) ?_
              exact ih612 zi687 _ _ ls (by have := hm614; have := qe691; omega) (b_wid2 bd689 (by decide) (by decide)) (lv_sub hl [2, 3, 4, 5, 0] rfl) hw hS
            · skip
              have bd692 : (1 : Int) ≤ zi683.toInt ∧ zi683.toInt ≤ 1 := r_ne_lo cn685 bd684 (toi bc_0) (by decide) (by decide)
              refine lv_iconst (v := 1) hx hb dX6_pick_50 (by decide) ?_
              refine lv_aload_n hx hb dX6_pick_51 rfl (lv_at hl 1 rfl) ?_
              obtain ⟨qa694, eq693, kd695⟩ := rd_7001 ok0 kd900
              refine p_get (ci := 6) (v := .ref qa694) (C := RX6) (T := TX6) (N := 6) hx hb hT iw_X6 hown hK hw hW kd900 (by decide) rfl rfl 1 (by decide) eq693 (hT _ tb_529) (fun _ h9 => h9) dX6_pick_52 ?_
              refine lv_iload hx hb dX6_pick_55 (lv_at hl 5 rfl) ?_
              obtain ⟨zi697, eq696⟩ := rd_38000 ok0 kd695 ((zi439 : Int32).toNatClampNeg)
              refine p_iald (v := zi697) hx hb hK hw hW kd695 (by decide) rfl (hW.len kd695 (n := 16) rfl (by decide)) (vp_b bd622 (by decide) (by decide)) eq696 dX6_pick_57 ?_
              refine lv_ishl hx hb dX6_pick_58 (lv_topi (fun zi698 ea699 => ?_))
              rw [hQ]
              exact kz_i hx hb hr hlocks hS rfl hp0 hw ⟨ok0, (Fr.rf)⟩ (Nat.le_of_ble_eq_true rfl) (Nat.le_of_ble_eq_true rfl) dX6_pick_59
  exact lp613 _ zi1 _ _ ls (lp_in _) (b_wid2 bd3 (by decide) (by decide)) (lv_sub hl [1, 2, 3, 4, 0] rfl) hw hS
