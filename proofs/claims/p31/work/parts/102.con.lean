set_option maxRecDepth 100000 in
set_option maxHeartbeats 4000000 in
theorem cX10_witnessNamed_0 (l : Launch) (G : va_G) (cy : Nat → ClassId) (ev : Ew) (K ln : Nat → Nat) (Ls : List Nat) (hW : SW K ln Ls) (sz : Nat) (hp0 : Nat → Nat → Value) (ok0 : Ok K hp0) (qa900 : Nat) (wl901 : Int64) (kd900 : K qa900 = 11) : Met l yX10_witnessNamed (WS yX10_witnessNamed cX10_witnessNamed 3 (some .int)) { frames := 1, cells := 0, slots := 0, locals := 24 } (PB2 [.ref qa900, .long wl901] sz G cy ev (va_pl Ls (cellOf cy K ln hp0))) (QBi (S := (Nat → Nat → Value)) (fun (r : Int32) (u : (Nat → Nat → Value)) => Ok K u ∧ Fr [] K hp0 u ∧ ((-1 : Int) ≤ r.toInt ∧ r.toInt ≤ 5)) G (fun u => va_pl Ls (cellOf cy K ln u)) (va_A (va_pl Ls (cellOf cy K ln hp0)) sz)) 0 0 (va_A (va_pl Ls (cellOf cy K ln hp0)) sz) := by
  refine met_of2 (y := yX10_witnessNamed) (L := 3) (av := [.ref qa900, .long wl901]) (Qc := fun A => QBi (S := (Nat → Nat → Value)) (fun (r : Int32) (u : (Nat → Nat → Value)) => Ok K u ∧ Fr [] K hp0 u ∧ ((-1 : Int) ≤ r.toInt ∧ r.toInt ≤ 5)) G (fun u => va_pl Ls (cellOf cy K ln u)) A) (plainFor_of_name (by decide)) (Nat.le_of_ble_eq_true rfl) ?_
  intro p e s m below meth c hsz hx hb hr hml hown hT hlocks hin hK A hA hE hw hS ls hl
  have hw : PW G cy K ln Ls A hp0 s.heap := hw
  have hown : s.vm.findClass "LieClock$Told" = some m.cls := hown
  have hl : lv_has ls 3 [(0, .ref qa900), (1, .long wl901)] := hl
  obtain ⟨Q, hQ⟩ : ∃ Q : State → Prop, Q = MQ below (QBi (S := (Nat → Nat → Value)) (fun (r : Int32) (u : (Nat → Nat → Value)) => Ok K u ∧ Fr [] K hp0 u ∧ ((-1 : Int) ≤ r.toInt ∧ r.toInt ≤ 5)) G (fun u => va_pl Ls (cellOf cy K ln u)) A) ([.ref qa900, .long wl901] : List Value).toArray s 0 0 A := ⟨_, rfl⟩
  rw [← hQ]
  refine lv_aload_n hx hb dX10_witnessNamed_0 rfl (lv_at hl 0 rfl) ?_
  obtain ⟨qa2, eq1, kd3⟩ := rd_11011 ok0 kd900
  refine p_get (ci := 10) (v := .ref qa2) (C := RX10) (T := TX10) (N := 20) hx hb hT iw_X10 hown hK hw hW kd900 (by decide) rfl rfl 11 (by decide) eq1 (hT _ tb_223) (fun _ h9 => h9) dX10_witnessNamed_1 ?_
  refine lv_aload_n hx hb dX10_witnessNamed_4 rfl (lv_at hl 0 rfl) ?_
  obtain ⟨zi5, eq4, bd6⟩ := rd_11003 ok0 kd900
  refine p_get (ci := 10) (v := .int zi5) (C := RX10) (T := TX10) (N := 20) hx hb hT iw_X10 hown hK hw hW kd900 (by decide) rfl rfl 3 (by decide) eq4 (hT _ tb_192) (fun _ h9 => h9) dX10_witnessNamed_5 ?_
  refine lv_lload_n hx hb dX10_witnessNamed_8 rfl (lv_at hl 1 rfl) ?_
  refine kq_i hw hS hA (va_runS (As := [.ref qa2, .int zi5, .long wl901]) (rest := []) ⟨hx, hb, hml, hown, hT⟩ (cX10_indexOf_1 l G cy ev K ln Ls hW _ hp0 ok0 qa2 zi5 wl901 kd3) (va_cwS 3 hT (good_S tb_873 tb_871 tb_872 tb_107) rfl rfl rfl (by decide +kernel) ⟨Nat.le_of_ble_eq_true rfl, Nat.le_of_ble_eq_true rfl⟩) (PB2.preS hK hE hS hA hw) rfl rfl hl.1 rfl (lv_room (Nat.le_of_ble_eq_true rfl)) dX10_witnessNamed_9 ⟨Nat.le_of_ble_eq_true rfl, Nat.le_of_ble_eq_true rfl⟩) (fun zi11 hp7 H locs hq10 hw hS => ?_)
  obtain ⟨ok8, F9, bd12⟩ := hq10
  obtain rfl : hp0 = hp7 := (Fr.nil F9).symm
  have hw : PW G cy K ln Ls A hp0 H := hw
  rw [hQ]
  exact kz_i hx hb hr hlocks hS rfl hp0 hw ⟨ok0, (Fr.rf), (b_wid2 bd12 (by decide) (by decide))⟩ (Nat.le_of_ble_eq_true rfl) (Nat.le_of_ble_eq_true rfl) dX10_witnessNamed_12

set_option maxRecDepth 100000 in
set_option maxHeartbeats 4000000 in
theorem cX10_indexOf_2 (l : Launch) (G : va_G) (cy : Nat → ClassId) (ev : Ew) (K ln : Nat → Nat) (Ls : List Nat) (hW : SW K ln Ls) (sz : Nat) (hp0 : Nat → Nat → Value) (ok0 : Ok K hp0) (qa900 : Nat) (zi901 : Int32) (wl902 : Int64) (kd900 : K qa900 = 53) : Met l yX10_indexOf (WS yX10_indexOf cX10_indexOf 5 (some .int)) { frames := 0, cells := 0, slots := 0, locals := 0 } (PB2 [.ref qa900, .int zi901, .long wl902] sz G cy ev (va_pl Ls (cellOf cy K ln hp0))) (QBi (S := (Nat → Nat → Value)) (fun (r : Int32) (u : (Nat → Nat → Value)) => Ok K u ∧ Fr [] K hp0 u ∧ ((-1 : Int) ≤ r.toInt ∧ r.toInt ≤ 7)) G (fun u => va_pl Ls (cellOf cy K ln u)) (va_A (va_pl Ls (cellOf cy K ln hp0)) sz)) 0 0 (va_A (va_pl Ls (cellOf cy K ln hp0)) sz) := by
  refine met_of2 (y := yX10_indexOf) (L := 5) (av := [.ref qa900, .int zi901, .long wl902]) (Qc := fun A => QBi (S := (Nat → Nat → Value)) (fun (r : Int32) (u : (Nat → Nat → Value)) => Ok K u ∧ Fr [] K hp0 u ∧ ((-1 : Int) ≤ r.toInt ∧ r.toInt ≤ 7)) G (fun u => va_pl Ls (cellOf cy K ln u)) A) (plainFor_of_name (by decide)) (Nat.le_of_ble_eq_true rfl) ?_
  intro p e s m below meth c hsz hx hb hr hml hown hT hlocks hin hK A hA hE hw hS ls hl
  have hw : PW G cy K ln Ls A hp0 s.heap := hw
  have hown : s.vm.findClass "LieClock$Told" = some m.cls := hown
  have hl : lv_has ls 5 [(0, .ref qa900), (1, .int zi901), (2, .long wl902)] := hl
  obtain ⟨Q, hQ⟩ : ∃ Q : State → Prop, Q = MQ below (QBi (S := (Nat → Nat → Value)) (fun (r : Int32) (u : (Nat → Nat → Value)) => Ok K u ∧ Fr [] K hp0 u ∧ ((-1 : Int) ≤ r.toInt ∧ r.toInt ≤ 7)) G (fun u => va_pl Ls (cellOf cy K ln u)) A) ([.ref qa900, .int zi901, .long wl902] : List Value).toArray s 0 0 A := ⟨_, rfl⟩
  rw [← hQ]
  refine lv_iconst (v := 0) hx hb dX10_indexOf_0 (by decide) ?_
  refine lv_istore (lv' := [(4, .int 0), (0, .ref qa900), (1, .int zi901), (2, .long wl902)]) hx hb dX10_indexOf_1 hl (by decide) rfl (fun ls hl => ?_)
  have lp118 : ∀ (n116 : Nat) (zi80 : Int32) (H : Heap) (locs : List Loc) (ls : Array Slot), 8 - zi80.toInt < (n116 : Int) → ((0 : Int) ≤ zi80.toInt ∧ zi80.toInt ≤ 8) → lv_has ls 5 [(0, .ref qa900), (1, .int zi901), (2, .long wl902), (4, .int zi80)] → PW G cy K ln Ls A hp0 H → va_S A s.heap H locs → W p l e ({ frames := 0, cells := 0, slots := 0, locals := 0 } : Room) s m ([.ref qa900, .int zi901, .long wl902] : List Value).toArray below meth c H locs 0 0 Q (F0 m 3 ls []) := by
    intro n116
    induction n116 with
    | zero =>
      intro zi80 H locs ls hm119 bd81 hl hw hS
      exact absurd hm119 (by have := bd81; omega)
    | succ n116 ih117 =>
      intro zi80 H locs ls hm119 bd81 hl hw hS
      refine lv_iload hx hb dX10_indexOf_3 (lv_at hl 3 rfl) ?_
      refine lv_iload_n hx hb dX10_indexOf_5 rfl (lv_at hl 1 rfl) ?_
      refine lv_icmp_ge (tgt := 34) hx hb dX10_indexOf_6 (by decide) (fun cn120 => ?_) (fun cn120 => ?_)
      · skip
        have bd121 : (-2147483648 : Int) ≤ zi901.toInt ∧ zi901.toInt ≤ 8 := r_le_x cn120 (b_all zi901) bd81 (by decide) (by decide)
        refine lv_iconst (v := (-1)) hx hb dX10_indexOf_34 (by decide) ?_
        rw [hQ]
        exact kz_i hx hb hr hlocks hS rfl hp0 hw ⟨ok0, (Fr.rf), (b_wid2 bc_m1 (by decide) (by decide))⟩ (Nat.le_of_ble_eq_true rfl) (Nat.le_of_ble_eq_true rfl) dX10_indexOf_35
      · skip
        have bd122 : (1 : Int) ≤ zi901.toInt ∧ zi901.toInt ≤ 2147483647 := r_lt_y (Int32.not_le.mp cn120) bd81 (b_all zi901) (by decide) (by decide)
        refine lv_iload hx hb dX10_indexOf_9 (lv_at hl 3 rfl) ?_
        refine lv_aload_n hx hb dX10_indexOf_11 rfl (lv_at hl 0 rfl) ?_
        refine p_alen (v := 8) hx hb hK hw hW kd900 (by decide) rfl rfl (by rw [hW.len kd900 (n := 8) rfl (by decide)]; decide) dX10_indexOf_12 ?_
        refine lv_icmp_ge (tgt := 34) hx hb dX10_indexOf_13 (by decide) (fun cn123 => ?_) (fun cn123 => ?_)
        · skip
          have bd124 : (8 : Int) ≤ zi80.toInt ∧ zi80.toInt ≤ 8 := r_le_y cn123 bc_8 bd81 (by decide) (by decide)
          refine lv_iconst (v := (-1)) hx hb dX10_indexOf_34 (by decide) ?_
          rw [hQ]
          exact kz_i hx hb hr hlocks hS rfl hp0 hw ⟨ok0, (Fr.rf), (b_wid2 bc_m1 (by decide) (by decide))⟩ (Nat.le_of_ble_eq_true rfl) (Nat.le_of_ble_eq_true rfl) dX10_indexOf_35
        · skip
          have bd125 : (0 : Int) ≤ zi80.toInt ∧ zi80.toInt ≤ 7 := r_lt_x (Int32.not_le.mp cn123) bd81 bc_8 (by decide) (by decide)
          refine lv_aload_n hx hb dX10_indexOf_16 rfl (lv_at hl 0 rfl) ?_
          refine lv_iload hx hb dX10_indexOf_17 (lv_at hl 3 rfl) ?_
          obtain ⟨wl127, eq126⟩ := rd_53000 ok0 kd900 ((zi80 : Int32).toNatClampNeg)
          refine p_lald (v := wl127) hx hb hK hw hW kd900 (by decide) rfl (hW.len kd900 (n := 8) rfl (by decide)) (vp_b bd125 (by decide) (by decide)) eq126 dX10_indexOf_19 ?_
          refine lv_lload_n hx hb dX10_indexOf_20 rfl (lv_at hl 2 rfl) ?_
          refine W.lcmp hx hb dX10_indexOf_21 (lv_topi (fun zi128 ea129 => ?_))
          refine lv_if_ne (tgt := 28) hx hb dX10_indexOf_22 (by decide) (fun cn130 => ?_) (fun cn130 => ?_)
          · skip
            obtain ⟨zi131, ea132⟩ : ∃ z : Int32, z = zi80 + 1 := ⟨_, rfl⟩
            have bd133 : (1 : Int) ≤ zi131.toInt ∧ zi131.toInt ≤ 8 := b_iadd ea132 bd125 bc_1 (by decide) (by decide) (by decide) (by decide)
            have qe134 : zi131.toInt = (zi80 : Int32).toInt + (1 : Int32).toInt := e_iadd ea132 bd125 bc_1 (by decide) (by decide)
            have qe135 : zi131.toInt = zi80.toInt + 1 := by have ha : (1 : Int32).toInt = 1 := (by decide); rw [ha] at qe134; exact qe134
            refine lv_iinc (v := zi131) (lv' := [(4, .int zi131), (0, .ref qa900), (1, .int zi901), (2, .long wl902)]) hx hb dX10_indexOf_28 hl (k := 3) rfl ea132.symm (by decide) rfl (fun ls hl => ?_)
            refine lv_goto (tgt := 3) hx hb dX10_indexOf_31 (by decide) ?_
            exact ih117 zi131 _ _ ls (by have := hm119; have := qe135; omega) (b_wid2 bd133 (by decide) (by decide)) (lv_sub hl [1, 2, 3, 0] rfl) hw hS
          · skip
            have bd136 : (0 : Int) ≤ zi128.toInt ∧ zi128.toInt ≤ 0 := r_eq_x cn130 (b_all zi128) bc_0 (by decide) (by decide)
            refine lv_iload hx hb dX10_indexOf_25 (lv_at hl 3 rfl) ?_
            rw [hQ]
            exact kz_i hx hb hr hlocks hS rfl hp0 hw ⟨ok0, (Fr.rf), (b_wid2 bd125 (by decide) (by decide))⟩ (Nat.le_of_ble_eq_true rfl) (Nat.le_of_ble_eq_true rfl) dX10_indexOf_27
  exact lp118 _ 0 _ _ ls (lp_in _) (b_wid2 bc_0 (by decide) (by decide)) (lv_sub hl [1, 2, 3, 0] rfl) hw hS

set_option maxRecDepth 100000 in
set_option maxHeartbeats 4000000 in
theorem cX10_isTold_0 (l : Launch) (G : va_G) (cy : Nat → ClassId) (ev : Ew) (K ln : Nat → Nat) (Ls : List Nat) (hW : SW K ln Ls) (sz : Nat) (hp0 : Nat → Nat → Value) (ok0 : Ok K hp0) (qa900 : Nat) (wl901 : Int64) (kd900 : K qa900 = 11) : Met l yX10_isTold (WS yX10_isTold cX10_isTold 3 (some .boolean)) { frames := 2, cells := 0, slots := 0, locals := 46 } (PB2 [.ref qa900, .long wl901] sz G cy ev (va_pl Ls (cellOf cy K ln hp0))) (QBi (S := (Nat → Nat → Value)) (fun (r : Int32) (u : (Nat → Nat → Value)) => Ok K u ∧ Fr [] K hp0 u ∧ ((0 : Int) ≤ r.toInt ∧ r.toInt ≤ 1)) G (fun u => va_pl Ls (cellOf cy K ln u)) (va_A (va_pl Ls (cellOf cy K ln hp0)) sz)) 0 0 (va_A (va_pl Ls (cellOf cy K ln hp0)) sz) := by
  refine met_of2 (y := yX10_isTold) (L := 3) (av := [.ref qa900, .long wl901]) (Qc := fun A => QBi (S := (Nat → Nat → Value)) (fun (r : Int32) (u : (Nat → Nat → Value)) => Ok K u ∧ Fr [] K hp0 u ∧ ((0 : Int) ≤ r.toInt ∧ r.toInt ≤ 1)) G (fun u => va_pl Ls (cellOf cy K ln u)) A) (plainFor_of_name (by decide)) (Nat.le_of_ble_eq_true rfl) ?_
  intro p e s m below meth c hsz hx hb hr hml hown hT hlocks hin hK A hA hE hw hS ls hl
  have hw : PW G cy K ln Ls A hp0 s.heap := hw
  have hown : s.vm.findClass "LieClock$Told" = some m.cls := hown
  have hl : lv_has ls 3 [(0, .ref qa900), (1, .long wl901)] := hl
  obtain ⟨Q, hQ⟩ : ∃ Q : State → Prop, Q = MQ below (QBi (S := (Nat → Nat → Value)) (fun (r : Int32) (u : (Nat → Nat → Value)) => Ok K u ∧ Fr [] K hp0 u ∧ ((0 : Int) ≤ r.toInt ∧ r.toInt ≤ 1)) G (fun u => va_pl Ls (cellOf cy K ln u)) A) ([.ref qa900, .long wl901] : List Value).toArray s 0 0 A := ⟨_, rfl⟩
  rw [← hQ]
  refine lv_aload_n hx hb dX10_isTold_0 rfl (lv_at hl 0 rfl) ?_
  refine lv_lload_n hx hb dX10_isTold_1 rfl (lv_at hl 1 rfl) ?_
  refine kq_i hw hS hA (va_runV (As := [.long wl901]) (rest := []) ⟨hx, hb, hml, hown, hT⟩ (cX10_factNamed_0 l G cy ev K ln Ls hW _ hp0 ok0 qa900 wl901 kd900) (cwV 1 hT (good_V tb_870 tb_867 tb_868 tb_869 tb_107) rfl rfl rfl (by decide +kernel) ⟨Nat.le_of_ble_eq_true rfl, Nat.le_of_ble_eq_true rfl⟩) (pool_preV (ci := 10) hK hE hS hA hw hW kd900 (by decide) rfl) rfl rfl hl.1 rfl (lv_room (Nat.le_of_ble_eq_true rfl)) dX10_isTold_2 ⟨Nat.le_of_ble_eq_true rfl, Nat.le_of_ble_eq_true rfl⟩) (fun zi5 hp1 H locs hq4 hw hS => ?_)
  obtain ⟨ok2, F3, bd6⟩ := hq4
  obtain rfl : hp0 = hp1 := (Fr.nil F3).symm
  have hw : PW G cy K ln Ls A hp0 H := hw
  refine lv_if_ge (tgt := 31) hx hb dX10_isTold_5 (by decide) (fun cn7 => ?_) (fun cn7 => ?_)
  · skip
    have bd8 : (0 : Int) ≤ zi5.toInt ∧ zi5.toInt ≤ 5 := r_le_y cn7 bc_0 bd6 (by decide) (by decide)
    refine lv_iconst (v := 1) hx hb dX10_isTold_31 (by decide) ?_
    refine lv_goto (tgt := 36) hx hb dX10_isTold_32 (by decide) ?_
    rw [hQ]
    exact kz_i hx hb hr hlocks hS (nz_n bc_1 (by decide) (by decide)) hp0 hw ⟨ok0, (Fr.rf), (b_wid2 bc_1 (by decide) (by decide))⟩ (Nat.le_of_ble_eq_true rfl) (Nat.le_of_ble_eq_true rfl) dX10_isTold_36
  · skip
    have bd9 : (-1 : Int) ≤ zi5.toInt ∧ zi5.toInt ≤ -1 := r_lt_x (Int32.not_le.mp cn7) bd6 bc_0 (by decide) (by decide)
    refine lv_aload_n hx hb dX10_isTold_8 rfl (lv_at hl 0 rfl) ?_
    refine lv_lload_n hx hb dX10_isTold_9 rfl (lv_at hl 1 rfl) ?_
    refine kq_i hw hS hA (va_runV (As := [.long wl901]) (rest := []) ⟨hx, hb, hml, hown, hT⟩ (cX10_witnessNamed_0 l G cy ev K ln Ls hW _ hp0 ok0 qa900 wl901 kd900) (cwV 1 hT (good_V tb_877 tb_874 tb_875 tb_876 tb_107) rfl rfl rfl (by decide +kernel) ⟨Nat.le_of_ble_eq_true rfl, Nat.le_of_ble_eq_true rfl⟩) (pool_preV (ci := 10) hK hE hS hA hw hW kd900 (by decide) rfl) rfl rfl hl.1 rfl (lv_room (Nat.le_of_ble_eq_true rfl)) dX10_isTold_10 ⟨Nat.le_of_ble_eq_true rfl, Nat.le_of_ble_eq_true rfl⟩) (fun zi14 hp10 H locs hq13 hw hS => ?_)
    obtain ⟨ok11, F12, bd15⟩ := hq13
    obtain rfl : hp0 = hp10 := (Fr.nil F12).symm
    have hw : PW G cy K ln Ls A hp0 H := hw
    refine lv_if_ge (tgt := 31) hx hb dX10_isTold_13 (by decide) (fun cn16 => ?_) (fun cn16 => ?_)
    · skip
      have bd17 : (0 : Int) ≤ zi14.toInt ∧ zi14.toInt ≤ 5 := r_le_y cn16 bc_0 bd15 (by decide) (by decide)
      refine lv_iconst (v := 1) hx hb dX10_isTold_31 (by decide) ?_
      refine lv_goto (tgt := 36) hx hb dX10_isTold_32 (by decide) ?_
      rw [hQ]
      exact kz_i hx hb hr hlocks hS (nz_n bc_1 (by decide) (by decide)) hp0 hw ⟨ok0, (Fr.rf), (b_wid2 bc_1 (by decide) (by decide))⟩ (Nat.le_of_ble_eq_true rfl) (Nat.le_of_ble_eq_true rfl) dX10_isTold_36
    · skip
      have bd18 : (-1 : Int) ≤ zi14.toInt ∧ zi14.toInt ≤ -1 := r_lt_x (Int32.not_le.mp cn16) bd15 bc_0 (by decide) (by decide)
      refine lv_aload_n hx hb dX10_isTold_16 rfl (lv_at hl 0 rfl) ?_
      obtain ⟨qa20, eq19, kd21⟩ := rd_11015 ok0 kd900
      refine p_get (ci := 10) (v := .ref qa20) (C := RX10) (T := TX10) (N := 20) hx hb hT iw_X10 hown hK hw hW kd900 (by decide) rfl rfl 15 (by decide) eq19 (hT _ tb_233) (fun _ h9 => h9) dX10_isTold_17 ?_
      refine lv_aload_n hx hb dX10_isTold_20 rfl (lv_at hl 0 rfl) ?_
      obtain ⟨zi23, eq22, bd24⟩ := rd_11007 ok0 kd900
      refine p_get (ci := 10) (v := .int zi23) (C := RX10) (T := TX10) (N := 20) hx hb hT iw_X10 hown hK hw hW kd900 (by decide) rfl rfl 7 (by decide) eq22 (hT _ tb_212) (fun _ h9 => h9) dX10_isTold_21 ?_
      refine lv_lload_n hx hb dX10_isTold_24 rfl (lv_at hl 1 rfl) ?_
      refine kq_i hw hS hA (va_runS (As := [.ref qa20, .int zi23, .long wl901]) (rest := []) ⟨hx, hb, hml, hown, hT⟩ (cX10_indexOf_2 l G cy ev K ln Ls hW _ hp0 ok0 qa20 zi23 wl901 kd21) (va_cwS 3 hT (good_S tb_873 tb_871 tb_872 tb_107) rfl rfl rfl (by decide +kernel) ⟨Nat.le_of_ble_eq_true rfl, Nat.le_of_ble_eq_true rfl⟩) (PB2.preS hK hE hS hA hw) rfl rfl hl.1 rfl (lv_room (Nat.le_of_ble_eq_true rfl)) dX10_isTold_25 ⟨Nat.le_of_ble_eq_true rfl, Nat.le_of_ble_eq_true rfl⟩) (fun zi29 hp25 H locs hq28 hw hS => ?_)
      obtain ⟨ok26, F27, bd30⟩ := hq28
      obtain rfl : hp0 = hp25 := (Fr.nil F27).symm
      have hw : PW G cy K ln Ls A hp0 H := hw
      refine lv_if_lt (tgt := 35) hx hb dX10_isTold_28 (by decide) (fun cn31 => ?_) (fun cn31 => ?_)
      · skip
        have bd32 : (-1 : Int) ≤ zi29.toInt ∧ zi29.toInt ≤ -1 := r_lt_x cn31 bd30 bc_0 (by decide) (by decide)
        refine lv_iconst (v := 0) hx hb dX10_isTold_35 (by decide) ?_
        rw [hQ]
        exact kz_i hx hb hr hlocks hS (nz_n bc_0 (by decide) (by decide)) hp0 hw ⟨ok0, (Fr.rf), (b_wid2 bc_0 (by decide) (by decide))⟩ (Nat.le_of_ble_eq_true rfl) (Nat.le_of_ble_eq_true rfl) dX10_isTold_36
      · skip
        have bd33 : (0 : Int) ≤ zi29.toInt ∧ zi29.toInt ≤ 7 := r_le_y (Int32.not_lt.mp cn31) bc_0 bd30 (by decide) (by decide)
        refine lv_iconst (v := 1) hx hb dX10_isTold_31 (by decide) ?_
        refine lv_goto (tgt := 36) hx hb dX10_isTold_32 (by decide) ?_
        rw [hQ]
        exact kz_i hx hb hr hlocks hS (nz_n bc_1 (by decide) (by decide)) hp0 hw ⟨ok0, (Fr.rf), (b_wid2 bc_1 (by decide) (by decide))⟩ (Nat.le_of_ble_eq_true rfl) (Nat.le_of_ble_eq_true rfl) dX10_isTold_36

set_option maxRecDepth 100000 in
set_option maxHeartbeats 4000000 in
theorem cX10_hasWord_0 (l : Launch) (G : va_G) (cy : Nat → ClassId) (ev : Ew) (K ln : Nat → Nat) (Ls : List Nat) (hW : SW K ln Ls) (sz : Nat) (hp0 : Nat → Nat → Value) (ok0 : Ok K hp0) (qa900 : Nat) (zi901 : Int32) (kd900 : K qa900 = 11) : Met l yX10_hasWord (WS yX10_hasWord cX10_hasWord 2 (some .boolean)) { frames := 0, cells := 0, slots := 0, locals := 0 } (PB2 [.ref qa900, .int zi901] sz G cy ev (va_pl Ls (cellOf cy K ln hp0))) (QBi (S := (Nat → Nat → Value)) (fun (r : Int32) (u : (Nat → Nat → Value)) => Ok K u ∧ Fr [] K hp0 u ∧ ((0 : Int) ≤ r.toInt ∧ r.toInt ≤ 1) ∧ (r = 1 → ((0 : Int) ≤ zi901.toInt ∧ zi901.toInt ≤ 15))) G (fun u => va_pl Ls (cellOf cy K ln u)) (va_A (va_pl Ls (cellOf cy K ln hp0)) sz)) 0 0 (va_A (va_pl Ls (cellOf cy K ln hp0)) sz) := by
  refine met_of2 (y := yX10_hasWord) (L := 2) (av := [.ref qa900, .int zi901]) (Qc := fun A => QBi (S := (Nat → Nat → Value)) (fun (r : Int32) (u : (Nat → Nat → Value)) => Ok K u ∧ Fr [] K hp0 u ∧ ((0 : Int) ≤ r.toInt ∧ r.toInt ≤ 1) ∧ (r = 1 → ((0 : Int) ≤ zi901.toInt ∧ zi901.toInt ≤ 15))) G (fun u => va_pl Ls (cellOf cy K ln u)) A) (plainFor_of_name (by decide)) (Nat.le_of_ble_eq_true rfl) ?_
  intro p e s m below meth c hsz hx hb hr hml hown hT hlocks hin hK A hA hE hw hS ls hl
  have hw : PW G cy K ln Ls A hp0 s.heap := hw
  have hown : s.vm.findClass "LieClock$Told" = some m.cls := hown
  have hl : lv_has ls 2 [(0, .ref qa900), (1, .int zi901)] := hl
  obtain ⟨Q, hQ⟩ : ∃ Q : State → Prop, Q = MQ below (QBi (S := (Nat → Nat → Value)) (fun (r : Int32) (u : (Nat → Nat → Value)) => Ok K u ∧ Fr [] K hp0 u ∧ ((0 : Int) ≤ r.toInt ∧ r.toInt ≤ 1) ∧ (r = 1 → ((0 : Int) ≤ zi901.toInt ∧ zi901.toInt ≤ 15))) G (fun u => va_pl Ls (cellOf cy K ln u)) A) ([.ref qa900, .int zi901] : List Value).toArray s 0 0 A := ⟨_, rfl⟩
  rw [← hQ]
  refine lv_iload_n hx hb dX10_hasWord_0 rfl (lv_at hl 1 rfl) ?_
  refine lv_if_lt (tgt := 16) hx hb dX10_hasWord_1 (by decide) (fun cn1 => ?_) (fun cn1 => ?_)
  · skip
    have bd2 : (-2147483648 : Int) ≤ zi901.toInt ∧ zi901.toInt ≤ -1 := r_lt_x cn1 (b_all zi901) bc_0 (by decide) (by decide)
    refine lv_iconst (v := 0) hx hb dX10_hasWord_16 (by decide) ?_
    rw [hQ]
    exact kz_i hx hb hr hlocks hS (nz_n bc_0 (by decide) (by decide)) hp0 hw ⟨ok0, (Fr.rf), (b_wid2 bc_0 (by decide) (by decide)), (fun h => absurd h (by decide))⟩ (Nat.le_of_ble_eq_true rfl) (Nat.le_of_ble_eq_true rfl) dX10_hasWord_17
  · skip
    have bd3 : (0 : Int) ≤ zi901.toInt ∧ zi901.toInt ≤ 2147483647 := r_le_y (Int32.not_lt.mp cn1) bc_0 (b_all zi901) (by decide) (by decide)
    refine lv_iload_n hx hb dX10_hasWord_4 rfl (lv_at hl 1 rfl) ?_
    refine lv_aload_n hx hb dX10_hasWord_5 rfl (lv_at hl 0 rfl) ?_
    obtain ⟨zi5, eq4, bd6⟩ := rd_11004 ok0 kd900
    refine p_get (ci := 10) (v := .int zi5) (C := RX10) (T := TX10) (N := 20) hx hb hT iw_X10 hown hK hw hW kd900 (by decide) rfl rfl 4 (by decide) eq4 (hT _ tb_198) (fun _ h9 => h9) dX10_hasWord_6 ?_
    refine lv_icmp_ge (tgt := 16) hx hb dX10_hasWord_9 (by decide) (fun cn7 => ?_) (fun cn7 => ?_)
    · skip
      refine lv_iconst (v := 0) hx hb dX10_hasWord_16 (by decide) ?_
      rw [hQ]
      exact kz_i hx hb hr hlocks hS (nz_n bc_0 (by decide) (by decide)) hp0 hw ⟨ok0, (Fr.rf), (b_wid2 bc_0 (by decide) (by decide)), (fun h => absurd h (by decide))⟩ (Nat.le_of_ble_eq_true rfl) (Nat.le_of_ble_eq_true rfl) dX10_hasWord_17
    · skip
      have bd8 : (0 : Int) ≤ zi901.toInt ∧ zi901.toInt ≤ 15 := r_lt_x (Int32.not_le.mp cn7) bd3 bd6 (by decide) (by decide)
      have bd9 : (1 : Int) ≤ zi5.toInt ∧ zi5.toInt ≤ 16 := r_lt_y (Int32.not_le.mp cn7) bd3 bd6 (by decide) (by decide)
      refine lv_iconst (v := 1) hx hb dX10_hasWord_12 (by decide) ?_
      refine lv_goto (tgt := 17) hx hb dX10_hasWord_13 (by decide) ?_
      rw [hQ]
      exact kz_i hx hb hr hlocks hS (nz_n bc_1 (by decide) (by decide)) hp0 hw ⟨ok0, (Fr.rf), (b_wid2 bc_1 (by decide) (by decide)), (fun _ => b_wid2 bd8 (by decide) (by decide))⟩ (Nat.le_of_ble_eq_true rfl) (Nat.le_of_ble_eq_true rfl) dX10_hasWord_17

set_option maxRecDepth 100000 in
set_option maxHeartbeats 4000000 in
theorem cX10_hasCase_0 (l : Launch) (G : va_G) (cy : Nat → ClassId) (ev : Ew) (K ln : Nat → Nat) (Ls : List Nat) (hW : SW K ln Ls) (sz : Nat) (hp0 : Nat → Nat → Value) (ok0 : Ok K hp0) (qa900 : Nat) (zi901 : Int32) (kd900 : K qa900 = 11) : Met l yX10_hasCase (WS yX10_hasCase cX10_hasCase 2 (some .boolean)) { frames := 0, cells := 0, slots := 0, locals := 0 } (PB2 [.ref qa900, .int zi901] sz G cy ev (va_pl Ls (cellOf cy K ln hp0))) (QBi (S := (Nat → Nat → Value)) (fun (r : Int32) (u : (Nat → Nat → Value)) => Ok K u ∧ Fr [] K hp0 u ∧ ((0 : Int) ≤ r.toInt ∧ r.toInt ≤ 1) ∧ (r = 1 → ((0 : Int) ≤ zi901.toInt ∧ zi901.toInt ≤ 7))) G (fun u => va_pl Ls (cellOf cy K ln u)) (va_A (va_pl Ls (cellOf cy K ln hp0)) sz)) 0 0 (va_A (va_pl Ls (cellOf cy K ln hp0)) sz) := by
  refine met_of2 (y := yX10_hasCase) (L := 2) (av := [.ref qa900, .int zi901]) (Qc := fun A => QBi (S := (Nat → Nat → Value)) (fun (r : Int32) (u : (Nat → Nat → Value)) => Ok K u ∧ Fr [] K hp0 u ∧ ((0 : Int) ≤ r.toInt ∧ r.toInt ≤ 1) ∧ (r = 1 → ((0 : Int) ≤ zi901.toInt ∧ zi901.toInt ≤ 7))) G (fun u => va_pl Ls (cellOf cy K ln u)) A) (plainFor_of_name (by decide)) (Nat.le_of_ble_eq_true rfl) ?_
  intro p e s m below meth c hsz hx hb hr hml hown hT hlocks hin hK A hA hE hw hS ls hl
  have hw : PW G cy K ln Ls A hp0 s.heap := hw
  have hown : s.vm.findClass "LieClock$Told" = some m.cls := hown
  have hl : lv_has ls 2 [(0, .ref qa900), (1, .int zi901)] := hl
  obtain ⟨Q, hQ⟩ : ∃ Q : State → Prop, Q = MQ below (QBi (S := (Nat → Nat → Value)) (fun (r : Int32) (u : (Nat → Nat → Value)) => Ok K u ∧ Fr [] K hp0 u ∧ ((0 : Int) ≤ r.toInt ∧ r.toInt ≤ 1) ∧ (r = 1 → ((0 : Int) ≤ zi901.toInt ∧ zi901.toInt ≤ 7))) G (fun u => va_pl Ls (cellOf cy K ln u)) A) ([.ref qa900, .int zi901] : List Value).toArray s 0 0 A := ⟨_, rfl⟩
  rw [← hQ]
  refine lv_iload_n hx hb dX10_hasCase_0 rfl (lv_at hl 1 rfl) ?_
  refine lv_if_lt (tgt := 16) hx hb dX10_hasCase_1 (by decide) (fun cn1 => ?_) (fun cn1 => ?_)
  · skip
    have bd2 : (-2147483648 : Int) ≤ zi901.toInt ∧ zi901.toInt ≤ -1 := r_lt_x cn1 (b_all zi901) bc_0 (by decide) (by decide)
    refine lv_iconst (v := 0) hx hb dX10_hasCase_16 (by decide) ?_
    rw [hQ]
    exact kz_i hx hb hr hlocks hS (nz_n bc_0 (by decide) (by decide)) hp0 hw ⟨ok0, (Fr.rf), (b_wid2 bc_0 (by decide) (by decide)), (fun h => absurd h (by decide))⟩ (Nat.le_of_ble_eq_true rfl) (Nat.le_of_ble_eq_true rfl) dX10_hasCase_17
  · skip
    have bd3 : (0 : Int) ≤ zi901.toInt ∧ zi901.toInt ≤ 2147483647 := r_le_y (Int32.not_lt.mp cn1) bc_0 (b_all zi901) (by decide) (by decide)
    refine lv_iload_n hx hb dX10_hasCase_4 rfl (lv_at hl 1 rfl) ?_
    refine lv_aload_n hx hb dX10_hasCase_5 rfl (lv_at hl 0 rfl) ?_
    obtain ⟨zi5, eq4, bd6⟩ := rd_11007 ok0 kd900
    refine p_get (ci := 10) (v := .int zi5) (C := RX10) (T := TX10) (N := 20) hx hb hT iw_X10 hown hK hw hW kd900 (by decide) rfl rfl 7 (by decide) eq4 (hT _ tb_212) (fun _ h9 => h9) dX10_hasCase_6 ?_
    refine lv_icmp_ge (tgt := 16) hx hb dX10_hasCase_9 (by decide) (fun cn7 => ?_) (fun cn7 => ?_)
    · skip
      refine lv_iconst (v := 0) hx hb dX10_hasCase_16 (by decide) ?_
      rw [hQ]
      exact kz_i hx hb hr hlocks hS (nz_n bc_0 (by decide) (by decide)) hp0 hw ⟨ok0, (Fr.rf), (b_wid2 bc_0 (by decide) (by decide)), (fun h => absurd h (by decide))⟩ (Nat.le_of_ble_eq_true rfl) (Nat.le_of_ble_eq_true rfl) dX10_hasCase_17
    · skip
      have bd8 : (0 : Int) ≤ zi901.toInt ∧ zi901.toInt ≤ 7 := r_lt_x (Int32.not_le.mp cn7) bd3 bd6 (by decide) (by decide)
      have bd9 : (1 : Int) ≤ zi5.toInt ∧ zi5.toInt ≤ 8 := r_lt_y (Int32.not_le.mp cn7) bd3 bd6 (by decide) (by decide)
      refine lv_iconst (v := 1) hx hb dX10_hasCase_12 (by decide) ?_
      refine lv_goto (tgt := 17) hx hb dX10_hasCase_13 (by decide) ?_
      rw [hQ]
      exact kz_i hx hb hr hlocks hS (nz_n bc_1 (by decide) (by decide)) hp0 hw ⟨ok0, (Fr.rf), (b_wid2 bc_1 (by decide) (by decide)), (fun _ => b_wid2 bd8 (by decide) (by decide))⟩ (Nat.le_of_ble_eq_true rfl) (Nat.le_of_ble_eq_true rfl) dX10_hasCase_17

set_option maxRecDepth 100000 in
set_option maxHeartbeats 4000000 in
theorem cX10_hasSet_0 (l : Launch) (G : va_G) (cy : Nat → ClassId) (ev : Ew) (K ln : Nat → Nat) (Ls : List Nat) (hW : SW K ln Ls) (sz : Nat) (hp0 : Nat → Nat → Value) (ok0 : Ok K hp0) (qa900 : Nat) (zi901 : Int32) (kd900 : K qa900 = 11) : Met l yX10_hasSet (WS yX10_hasSet cX10_hasSet 2 (some .boolean)) { frames := 0, cells := 0, slots := 0, locals := 0 } (PB2 [.ref qa900, .int zi901] sz G cy ev (va_pl Ls (cellOf cy K ln hp0))) (QBi (S := (Nat → Nat → Value)) (fun (r : Int32) (u : (Nat → Nat → Value)) => Ok K u ∧ Fr [] K hp0 u ∧ ((0 : Int) ≤ r.toInt ∧ r.toInt ≤ 1) ∧ (r = 1 → ((0 : Int) ≤ zi901.toInt ∧ zi901.toInt ≤ 2147483647))) G (fun u => va_pl Ls (cellOf cy K ln u)) (va_A (va_pl Ls (cellOf cy K ln hp0)) sz)) 0 0 (va_A (va_pl Ls (cellOf cy K ln hp0)) sz) := by
  refine met_of2 (y := yX10_hasSet) (L := 2) (av := [.ref qa900, .int zi901]) (Qc := fun A => QBi (S := (Nat → Nat → Value)) (fun (r : Int32) (u : (Nat → Nat → Value)) => Ok K u ∧ Fr [] K hp0 u ∧ ((0 : Int) ≤ r.toInt ∧ r.toInt ≤ 1) ∧ (r = 1 → ((0 : Int) ≤ zi901.toInt ∧ zi901.toInt ≤ 2147483647))) G (fun u => va_pl Ls (cellOf cy K ln u)) A) (plainFor_of_name (by decide)) (Nat.le_of_ble_eq_true rfl) ?_
  intro p e s m below meth c hsz hx hb hr hml hown hT hlocks hin hK A hA hE hw hS ls hl
  have hw : PW G cy K ln Ls A hp0 s.heap := hw
  have hown : s.vm.findClass "LieClock$Told" = some m.cls := hown
  have hl : lv_has ls 2 [(0, .ref qa900), (1, .int zi901)] := hl
  obtain ⟨Q, hQ⟩ : ∃ Q : State → Prop, Q = MQ below (QBi (S := (Nat → Nat → Value)) (fun (r : Int32) (u : (Nat → Nat → Value)) => Ok K u ∧ Fr [] K hp0 u ∧ ((0 : Int) ≤ r.toInt ∧ r.toInt ≤ 1) ∧ (r = 1 → ((0 : Int) ≤ zi901.toInt ∧ zi901.toInt ≤ 2147483647))) G (fun u => va_pl Ls (cellOf cy K ln u)) A) ([.ref qa900, .int zi901] : List Value).toArray s 0 0 A := ⟨_, rfl⟩
  rw [← hQ]
  refine lv_iload_n hx hb dX10_hasSet_0 rfl (lv_at hl 1 rfl) ?_
  refine lv_if_lt (tgt := 17) hx hb dX10_hasSet_1 (by decide) (fun cn1 => ?_) (fun cn1 => ?_)
  · skip
    have bd2 : (-2147483648 : Int) ≤ zi901.toInt ∧ zi901.toInt ≤ -1 := r_lt_x cn1 (b_all zi901) bc_0 (by decide) (by decide)
    refine lv_iconst (v := 0) hx hb dX10_hasSet_17 (by decide) ?_
    rw [hQ]
    exact kz_i hx hb hr hlocks hS (nz_n bc_0 (by decide) (by decide)) hp0 hw ⟨ok0, (Fr.rf), (b_wid2 bc_0 (by decide) (by decide)), (fun h => absurd h (by decide))⟩ (Nat.le_of_ble_eq_true rfl) (Nat.le_of_ble_eq_true rfl) dX10_hasSet_18
  · skip
    have bd3 : (0 : Int) ≤ zi901.toInt ∧ zi901.toInt ≤ 2147483647 := r_le_y (Int32.not_lt.mp cn1) bc_0 (b_all zi901) (by decide) (by decide)
    refine lv_iload_n hx hb dX10_hasSet_4 rfl (lv_at hl 1 rfl) ?_
    refine lv_aload_n hx hb dX10_hasSet_5 rfl (lv_at hl 0 rfl) ?_
    obtain ⟨zi5, eq4, bd6⟩ := rd_11004 ok0 kd900
    refine p_get (ci := 10) (v := .int zi5) (C := RX10) (T := TX10) (N := 20) hx hb hT iw_X10 hown hK hw hW kd900 (by decide) rfl rfl 4 (by decide) eq4 (hT _ tb_198) (fun _ h9 => h9) dX10_hasSet_6 ?_
    refine lv_ishr hx hb dX10_hasSet_9 (lv_topi (fun zi7 ea8 => ?_))
    refine lv_if_ne (tgt := 17) hx hb dX10_hasSet_10 (by decide) (fun cn9 => ?_) (fun cn9 => ?_)
    · skip
      refine lv_iconst (v := 0) hx hb dX10_hasSet_17 (by decide) ?_
      rw [hQ]
      exact kz_i hx hb hr hlocks hS (nz_n bc_0 (by decide) (by decide)) hp0 hw ⟨ok0, (Fr.rf), (b_wid2 bc_0 (by decide) (by decide)), (fun h => absurd h (by decide))⟩ (Nat.le_of_ble_eq_true rfl) (Nat.le_of_ble_eq_true rfl) dX10_hasSet_18
    · skip
      have bd10 : (0 : Int) ≤ zi7.toInt ∧ zi7.toInt ≤ 0 := r_eq_x cn9 (b_all zi7) bc_0 (by decide) (by decide)
      refine lv_iconst (v := 1) hx hb dX10_hasSet_13 (by decide) ?_
      refine lv_goto (tgt := 18) hx hb dX10_hasSet_14 (by decide) ?_
      rw [hQ]
      exact kz_i hx hb hr hlocks hS (nz_n bc_1 (by decide) (by decide)) hp0 hw ⟨ok0, (Fr.rf), (b_wid2 bc_1 (by decide) (by decide)), (fun _ => b_wid2 bd3 (by decide) (by decide))⟩ (Nat.le_of_ble_eq_true rfl) (Nat.le_of_ble_eq_true rfl) dX10_hasSet_18

set_option maxRecDepth 100000 in
set_option maxHeartbeats 4000000 in
theorem cX10_together_0 (l : Launch) (G : va_G) (cy : Nat → ClassId) (ev : Ew) (K ln : Nat → Nat) (Ls : List Nat) (hW : SW K ln Ls) (sz : Nat) (hp0 : Nat → Nat → Value) (ok0 : Ok K hp0) (qa900 : Nat) (zi901 : Int32) (kd900 : K qa900 = 11) : Met l yX10_together (WS yX10_together cX10_together 5 (some .long)) { frames := 0, cells := 0, slots := 0, locals := 0 } (PB2 [.ref qa900, .int zi901] sz G cy ev (va_pl Ls (cellOf cy K ln hp0))) (QBl (S := (Nat → Nat → Value)) (fun (r : Int64) (u : (Nat → Nat → Value)) => Ok K u ∧ Fr [] K hp0 u) G (fun u => va_pl Ls (cellOf cy K ln u)) (va_A (va_pl Ls (cellOf cy K ln hp0)) sz)) 0 0 (va_A (va_pl Ls (cellOf cy K ln hp0)) sz) := by
  refine met_of2 (y := yX10_together) (L := 5) (av := [.ref qa900, .int zi901]) (Qc := fun A => QBl (S := (Nat → Nat → Value)) (fun (r : Int64) (u : (Nat → Nat → Value)) => Ok K u ∧ Fr [] K hp0 u) G (fun u => va_pl Ls (cellOf cy K ln u)) A) (plainFor_of_name (by decide)) (Nat.le_of_ble_eq_true rfl) ?_
  intro p e s m below meth c hsz hx hb hr hml hown hT hlocks hin hK A hA hE hw hS ls hl
  have hw : PW G cy K ln Ls A hp0 s.heap := hw
  have hown : s.vm.findClass "LieClock$Told" = some m.cls := hown
  have hl : lv_has ls 5 [(0, .ref qa900), (1, .int zi901)] := hl
  obtain ⟨Q, hQ⟩ : ∃ Q : State → Prop, Q = MQ below (QBl (S := (Nat → Nat → Value)) (fun (r : Int64) (u : (Nat → Nat → Value)) => Ok K u ∧ Fr [] K hp0 u) G (fun u => va_pl Ls (cellOf cy K ln u)) A) ([.ref qa900, .int zi901] : List Value).toArray s 0 0 A := ⟨_, rfl⟩
  rw [← hQ]
  refine lv_ldc2 (v := (-1)) hx hb hown (hT _ tb_397) dX10_together_0 ?_
  refine lv_lstore_n (lv' := [(2, .long (-1)), (0, .ref qa900), (1, .int zi901)]) hx hb dX10_together_3 rfl hl (by decide) rfl (fun ls hl => ?_)
  refine lv_iconst (v := 0) hx hb dX10_together_4 (by decide) ?_
  refine lv_istore (lv' := [(4, .int 0), (2, .long (-1)), (0, .ref qa900), (1, .int zi901)]) hx hb dX10_together_5 hl (by decide) rfl (fun ls hl => ?_)
  have lp258 : ∀ (n256 : Nat) (wl183 : Int64) (zi184 : Int32) (H : Heap) (locs : List Loc) (ls : Array Slot), 16 - zi184.toInt < (n256 : Int) → ((0 : Int) ≤ zi184.toInt ∧ zi184.toInt ≤ 16) → lv_has ls 5 [(0, .ref qa900), (1, .int zi901), (2, .long wl183), (4, .int zi184)] → PW G cy K ln Ls A hp0 H → va_S A s.heap H locs → W p l e ({ frames := 0, cells := 0, slots := 0, locals := 0 } : Room) s m ([.ref qa900, .int zi901] : List Value).toArray below meth c H locs 0 0 Q (F0 m 7 ls []) := by
    intro n256
    induction n256 with
    | zero =>
      intro wl183 zi184 H locs ls hm259 bd185 hl hw hS
      exact absurd hm259 (by have := bd185; omega)
    | succ n256 ih257 =>
      intro wl183 zi184 H locs ls hm259 bd185 hl hw hS
      refine lv_iload hx hb dX10_together_7 (lv_at hl 3 rfl) ?_
      refine lv_aload_n hx hb dX10_together_9 rfl (lv_at hl 0 rfl) ?_
      obtain ⟨zi261, eq260, bd262⟩ := rd_11004 ok0 kd900
      refine p_get (ci := 10) (v := .int zi261) (C := RX10) (T := TX10) (N := 20) hx hb hT iw_X10 hown hK hw hW kd900 (by decide) rfl rfl 4 (by decide) eq260 (hT _ tb_198) (fun _ h9 => h9) dX10_together_10 ?_
      refine lv_icmp_ge (tgt := 41) hx hb dX10_together_13 (by decide) (fun cn263 => ?_) (fun cn263 => ?_)
      · skip
        refine lv_lload_n hx hb dX10_together_41 rfl (lv_at hl 2 rfl) ?_
        rw [hQ]
        exact kz_l hx hb hr hlocks hS hp0 hw ⟨ok0, (Fr.rf)⟩ (Nat.le_of_ble_eq_true rfl) (Nat.le_of_ble_eq_true rfl) dX10_together_42
      · skip
        have bd295 : (0 : Int) ≤ zi184.toInt ∧ zi184.toInt ≤ 15 := r_lt_x (Int32.not_le.mp cn263) bd185 bd262 (by decide) (by decide)
        have bd296 : (1 : Int) ≤ zi261.toInt ∧ zi261.toInt ≤ 16 := r_lt_y (Int32.not_le.mp cn263) bd185 bd262 (by decide) (by decide)
        refine lv_iload_n hx hb dX10_together_16 rfl (lv_at hl 1 rfl) ?_
        refine lv_iload hx hb dX10_together_17 (lv_at hl 3 rfl) ?_
        refine lv_ishr hx hb dX10_together_19 (lv_topi (fun zi297 ea298 => ?_))
        refine lv_iconst (v := 1) hx hb dX10_together_20 (by decide) ?_
        refine lv_iand hx hb dX10_together_21 (lv_topi (fun zi299 ea300 => ?_))
        have bd301 : (0 : Int) ≤ zi299.toInt ∧ zi299.toInt ≤ 1 := b_and_r ea300 bc_1 (by decide) (by decide) (by decide)
        have jn312 : ∀ (wl311 : Int64) (H : Heap) (locs : List Loc) (ls : Array Slot), lv_has ls 5 [(0, .ref qa900), (1, .int zi901), (2, .long wl311), (4, .int zi184)] → PW G cy K ln Ls A hp0 H → va_S A s.heap H locs → W p l e ({ frames := 0, cells := 0, slots := 0, locals := 0 } : Room) s m ([.ref qa900, .int zi901] : List Value).toArray below meth c H locs 0 0 Q (F0 m 35 ls []) := by
          intro wl311 H locs ls hl hw hS
          obtain ⟨zi313, ea314⟩ : ∃ z : Int32, z = zi184 + 1 := ⟨_, rfl⟩
          have bd315 : (1 : Int) ≤ zi313.toInt ∧ zi313.toInt ≤ 16 := b_iadd ea314 bd295 bc_1 (by decide) (by decide) (by decide) (by decide)
          have qe316 : zi313.toInt = (zi184 : Int32).toInt + (1 : Int32).toInt := e_iadd ea314 bd295 bc_1 (by decide) (by decide)
          have qe317 : zi313.toInt = zi184.toInt + 1 := by have ha : (1 : Int32).toInt = 1 := (by decide); rw [ha] at qe316; exact qe316
          refine lv_iinc (v := zi313) (lv' := [(4, .int zi313), (0, .ref qa900), (1, .int zi901), (2, .long wl311)]) hx hb dX10_together_35 hl (k := 3) rfl ea314.symm (by decide) rfl (fun ls hl => ?_)
          refine lv_goto (tgt := 7) hx hb dX10_together_38 (by decide) ?_
          exact ih257 wl311 zi313 _ _ ls (by have := hm259; have := qe317; omega) (b_wid2 bd315 (by decide) (by decide)) (lv_sub hl [1, 2, 3, 0] rfl) hw hS
        refine lv_if_eq (tgt := 35) hx hb dX10_together_22 (by decide) (fun cn302 => ?_) (fun cn302 => ?_)
        · skip
          have bd318 : (0 : Int) ≤ zi299.toInt ∧ zi299.toInt ≤ 0 := r_eq_x cn302 bd301 bc_0 (by decide) (by decide)
          exact jn312 wl183 _ _ ls (lv_sub hl [0, 1, 2, 3] rfl) hw hS
        · skip
          have bd319 : (1 : Int) ≤ zi299.toInt ∧ zi299.toInt ≤ 1 := r_ne_lo cn302 bd301 (toi bc_0) (by decide) (by decide)
          refine lv_lload_n hx hb dX10_together_25 rfl (lv_at hl 2 rfl) ?_
          refine lv_aload_n hx hb dX10_together_26 rfl (lv_at hl 0 rfl) ?_
          obtain ⟨qa321, eq320, kd322⟩ := rd_11014 ok0 kd900
          refine p_get (ci := 10) (v := .ref qa321) (C := RX10) (T := TX10) (N := 20) hx hb hT iw_X10 hown hK hw hW kd900 (by decide) rfl rfl 14 (by decide) eq320 (hT _ tb_230) (fun _ h9 => h9) dX10_together_27 ?_
          refine lv_iload hx hb dX10_together_30 (lv_at hl 3 rfl) ?_
          obtain ⟨wl324, eq323⟩ := rd_52000 ok0 kd322 ((zi184 : Int32).toNatClampNeg)
          refine p_lald (v := wl324) hx hb hK hw hW kd322 (by decide) rfl (hW.len kd322 (n := 16) rfl (by decide)) (vp_b bd295 (by decide) (by decide)) eq323 dX10_together_32 ?_
          refine lv_land hx hb dX10_together_33 (lv_topl (fun wl325 _ => ?_))
          refine lv_lstore_n (lv' := [(2, .long wl325), (0, .ref qa900), (1, .int zi901), (4, .int zi184)]) hx hb dX10_together_34 rfl hl (by decide) rfl (fun ls hl => ?_)
          exact jn312 wl325 _ _ ls (lv_sub hl [1, 2, 0, 3] rfl) hw hS
  exact lp258 _ ((-1)) 0 _ _ ls (lp_in _) (b_wid2 bc_0 (by decide) (by decide)) (lv_sub hl [2, 3, 1, 0] rfl) hw hS

set_option maxRecDepth 100000 in
set_option maxHeartbeats 4000000 in
theorem cX10_asItIs_0 (l : Launch) (G : va_G) (cy : Nat → ClassId) (ev : Ew) (K ln : Nat → Nat) (Ls : List Nat) (hW : SW K ln Ls) (sz : Nat) (hp0 : Nat → Nat → Value) (ok0 : Ok K hp0) (qa900 : Nat) (zi901 : Int32) (kd900 : K qa900 = 11) : Met l yX10_asItIs (WS yX10_asItIs cX10_asItIs 2 (some .long)) { frames := 0, cells := 0, slots := 0, locals := 0 } (PB2 [.ref qa900, .int zi901] sz G cy ev (va_pl Ls (cellOf cy K ln hp0))) (QBl (S := (Nat → Nat → Value)) (fun (r : Int64) (u : (Nat → Nat → Value)) => Ok K u ∧ Fr [] K hp0 u) G (fun u => va_pl Ls (cellOf cy K ln u)) (va_A (va_pl Ls (cellOf cy K ln hp0)) sz)) 0 0 (va_A (va_pl Ls (cellOf cy K ln hp0)) sz) := by
  refine met_of2 (y := yX10_asItIs) (L := 2) (av := [.ref qa900, .int zi901]) (Qc := fun A => QBl (S := (Nat → Nat → Value)) (fun (r : Int64) (u : (Nat → Nat → Value)) => Ok K u ∧ Fr [] K hp0 u) G (fun u => va_pl Ls (cellOf cy K ln u)) A) (plainFor_of_name (by decide)) (Nat.le_of_ble_eq_true rfl) ?_
  intro p e s m below meth c hsz hx hb hr hml hown hT hlocks hin hK A hA hE hw hS ls hl
  have hw : PW G cy K ln Ls A hp0 s.heap := hw
  have hown : s.vm.findClass "LieClock$Told" = some m.cls := hown
  have hl : lv_has ls 2 [(0, .ref qa900), (1, .int zi901)] := hl
  obtain ⟨Q, hQ⟩ : ∃ Q : State → Prop, Q = MQ below (QBl (S := (Nat → Nat → Value)) (fun (r : Int64) (u : (Nat → Nat → Value)) => Ok K u ∧ Fr [] K hp0 u) G (fun u => va_pl Ls (cellOf cy K ln u)) A) ([.ref qa900, .int zi901] : List Value).toArray s 0 0 A := ⟨_, rfl⟩
  rw [← hQ]
  refine lv_iload_n hx hb dX10_asItIs_0 rfl (lv_at hl 1 rfl) ?_
  refine lv_if_lt (tgt := 10) hx hb dX10_asItIs_1 (by decide) (fun cn1 => ?_) (fun cn1 => ?_)
  · skip
    have bd2 : (-2147483648 : Int) ≤ zi901.toInt ∧ zi901.toInt ≤ -1 := r_lt_x cn1 (b_all zi901) bc_0 (by decide) (by decide)
    refine lv_aload_n hx hb dX10_asItIs_10 rfl (lv_at hl 0 rfl) ?_
    obtain ⟨wl4, eq3⟩ := rd_11009 ok0 kd900
    refine p_get (ci := 10) (v := .long wl4) (C := RX10) (T := TX10) (N := 20) hx hb hT iw_X10 hown hK hw hW kd900 (by decide) rfl rfl 9 (by decide) eq3 (hT _ tb_220) (fun _ h9 => h9) dX10_asItIs_11 ?_
    rw [hQ]
    exact kz_l hx hb hr hlocks hS hp0 hw ⟨ok0, (Fr.rf)⟩ (Nat.le_of_ble_eq_true rfl) (Nat.le_of_ble_eq_true rfl) dX10_asItIs_14
  · skip
    have bd5 : (0 : Int) ≤ zi901.toInt ∧ zi901.toInt ≤ 2147483647 := r_le_y (Int32.not_lt.mp cn1) bc_0 (b_all zi901) (by decide) (by decide)
    refine lv_iload_n hx hb dX10_asItIs_4 rfl (lv_at hl 1 rfl) ?_
    refine lv_bipush (v := 6) hx hb dX10_asItIs_5 (by decide) ?_
    refine lv_icmp_lt (tgt := 15) hx hb dX10_asItIs_7 (by decide) (fun cn6 => ?_) (fun cn6 => ?_)
    · skip
      have bd7 : (0 : Int) ≤ zi901.toInt ∧ zi901.toInt ≤ 5 := r_lt_x cn6 bd5 bc_6 (by decide) (by decide)
      refine lv_aload_n hx hb dX10_asItIs_15 rfl (lv_at hl 0 rfl) ?_
      obtain ⟨zi9, eq8⟩ := rd_11001 ok0 kd900
      refine p_get (ci := 10) (v := .int zi9) (C := RX10) (T := TX10) (N := 20) hx hb hT iw_X10 hown hK hw hW kd900 (by decide) rfl rfl 1 (by decide) eq8 (hT _ tb_188) (fun _ h9 => h9) dX10_asItIs_16 ?_
      refine lv_iload_n hx hb dX10_asItIs_19 rfl (lv_at hl 1 rfl) ?_
      refine lv_ishr hx hb dX10_asItIs_20 (lv_topi (fun zi10 ea11 => ?_))
      refine lv_iconst (v := 1) hx hb dX10_asItIs_21 (by decide) ?_
      refine lv_iand hx hb dX10_asItIs_22 (lv_topi (fun zi12 ea13 => ?_))
      have bd14 : (0 : Int) ≤ zi12.toInt ∧ zi12.toInt ≤ 1 := b_and_r ea13 bc_1 (by decide) (by decide) (by decide)
      refine lv_if_eq (tgt := 34) hx hb dX10_asItIs_23 (by decide) (fun cn15 => ?_) (fun cn15 => ?_)
      · skip
        have bd16 : (0 : Int) ≤ zi12.toInt ∧ zi12.toInt ≤ 0 := r_eq_x cn15 bd14 bc_0 (by decide) (by decide)
        refine va_getsN hx hb hE.2.1 hS hown (hK.fl nw_375) (fun _ h9 => h9) dX10_asItIs_34 ?_
        refine lv_iload_n hx hb dX10_asItIs_37 rfl (lv_at hl 1 rfl) ?_
        obtain ⟨wl17, _⟩ : ∃ w : Int64, w = ev.2.2 (zi901 : Int32).toNatClampNeg := ⟨_, rfl⟩
        refine va_tl (v := .long (ev.2.2 (zi901 : Int32).toNatClampNeg)) hx hb hE.2.2 hS (vp_b bd7 (by decide) (by decide)) rfl dX10_asItIs_38 (lv_topl (fun wl17x _ => ?_))
        refine lv_ldc2 (v := (-1)) hx hb hown (hT _ tb_397) dX10_asItIs_39 ?_
        refine lv_lxor hx hb dX10_asItIs_42 (lv_topl (fun wl18 _ => ?_))
        rw [hQ]
        exact kz_l hx hb hr hlocks hS hp0 hw ⟨ok0, (Fr.rf)⟩ (Nat.le_of_ble_eq_true rfl) (Nat.le_of_ble_eq_true rfl) dX10_asItIs_43
      · skip
        have bd19 : (1 : Int) ≤ zi12.toInt ∧ zi12.toInt ≤ 1 := r_ne_lo cn15 bd14 (toi bc_0) (by decide) (by decide)
        refine va_getsN hx hb hE.2.1 hS hown (hK.fl nw_375) (fun _ h9 => h9) dX10_asItIs_26 ?_
        refine lv_iload_n hx hb dX10_asItIs_29 rfl (lv_at hl 1 rfl) ?_
        obtain ⟨wl20, _⟩ : ∃ w : Int64, w = ev.2.2 (zi901 : Int32).toNatClampNeg := ⟨_, rfl⟩
        refine va_tl (v := .long (ev.2.2 (zi901 : Int32).toNatClampNeg)) hx hb hE.2.2 hS (vp_b bd7 (by decide) (by decide)) rfl dX10_asItIs_30 (lv_topl (fun wl20x _ => ?_))
        refine lv_goto (tgt := 43) hx hb dX10_asItIs_31 (by decide) ?_
        rw [hQ]
        exact kz_l hx hb hr hlocks hS hp0 hw ⟨ok0, (Fr.rf)⟩ (Nat.le_of_ble_eq_true rfl) (Nat.le_of_ble_eq_true rfl) dX10_asItIs_43
    · skip
      have bd21 : (6 : Int) ≤ zi901.toInt ∧ zi901.toInt ≤ 2147483647 := r_le_y (Int32.not_lt.mp cn6) bc_6 bd5 (by decide) (by decide)
      refine lv_aload_n hx hb dX10_asItIs_10 rfl (lv_at hl 0 rfl) ?_
      obtain ⟨wl23, eq22⟩ := rd_11009 ok0 kd900
      refine p_get (ci := 10) (v := .long wl23) (C := RX10) (T := TX10) (N := 20) hx hb hT iw_X10 hown hK hw hW kd900 (by decide) rfl rfl 9 (by decide) eq22 (hT _ tb_220) (fun _ h9 => h9) dX10_asItIs_11 ?_
      rw [hQ]
      exact kz_l hx hb hr hlocks hS hp0 hw ⟨ok0, (Fr.rf)⟩ (Nat.le_of_ble_eq_true rfl) (Nat.le_of_ble_eq_true rfl) dX10_asItIs_14

set_option maxRecDepth 100000 in
set_option maxHeartbeats 4000000 in
theorem cX10_liarsBy_0 (l : Launch) (G : va_G) (cy : Nat → ClassId) (ev : Ew) (K ln : Nat → Nat) (Ls : List Nat) (hW : SW K ln Ls) (sz : Nat) (hp0 : Nat → Nat → Value) (ok0 : Ok K hp0) (qa900 : Nat) (zi901 : Int32) (kd900 : K qa900 = 11) : Met l yX10_liarsBy (WS yX10_liarsBy cX10_liarsBy 4 (some .int)) { frames := 0, cells := 0, slots := 0, locals := 0 } (PB2 [.ref qa900, .int zi901] sz G cy ev (va_pl Ls (cellOf cy K ln hp0))) (QBi (S := (Nat → Nat → Value)) (fun (r : Int32) (u : (Nat → Nat → Value)) => Ok K u ∧ Fr [] K hp0 u) G (fun u => va_pl Ls (cellOf cy K ln u)) (va_A (va_pl Ls (cellOf cy K ln hp0)) sz)) 0 0 (va_A (va_pl Ls (cellOf cy K ln hp0)) sz) := by
  refine met_of2 (y := yX10_liarsBy) (L := 4) (av := [.ref qa900, .int zi901]) (Qc := fun A => QBi (S := (Nat → Nat → Value)) (fun (r : Int32) (u : (Nat → Nat → Value)) => Ok K u ∧ Fr [] K hp0 u) G (fun u => va_pl Ls (cellOf cy K ln u)) A) (plainFor_of_name (by decide)) (Nat.le_of_ble_eq_true rfl) ?_
  intro p e s m below meth c hsz hx hb hr hml hown hT hlocks hin hK A hA hE hw hS ls hl
  have hw : PW G cy K ln Ls A hp0 s.heap := hw
  have hown : s.vm.findClass "LieClock$Told" = some m.cls := hown
  have hl : lv_has ls 4 [(0, .ref qa900), (1, .int zi901)] := hl
  obtain ⟨Q, hQ⟩ : ∃ Q : State → Prop, Q = MQ below (QBi (S := (Nat → Nat → Value)) (fun (r : Int32) (u : (Nat → Nat → Value)) => Ok K u ∧ Fr [] K hp0 u) G (fun u => va_pl Ls (cellOf cy K ln u)) A) ([.ref qa900, .int zi901] : List Value).toArray s 0 0 A := ⟨_, rfl⟩
  rw [← hQ]
  refine lv_iconst (v := 0) hx hb dX10_liarsBy_0 (by decide) ?_
  refine lv_istore_n (lv' := [(2, .int 0), (0, .ref qa900), (1, .int zi901)]) hx hb dX10_liarsBy_1 rfl hl (by decide) rfl (fun ls hl => ?_)
  refine lv_iconst (v := 0) hx hb dX10_liarsBy_2 (by decide) ?_
  refine lv_istore_n (lv' := [(3, .int 0), (2, .int 0), (0, .ref qa900), (1, .int zi901)]) hx hb dX10_liarsBy_3 rfl hl (by decide) rfl (fun ls hl => ?_)
  have lp233 : ∀ (n231 : Nat) (zi164 : Int32) (zi165 : Int32) (H : Heap) (locs : List Loc) (ls : Array Slot), 6 - zi165.toInt < (n231 : Int) → ((0 : Int) ≤ zi165.toInt ∧ zi165.toInt ≤ 6) → lv_has ls 4 [(0, .ref qa900), (1, .int zi901), (2, .int zi164), (3, .int zi165)] → PW G cy K ln Ls A hp0 H → va_S A s.heap H locs → W p l e ({ frames := 0, cells := 0, slots := 0, locals := 0 } : Room) s m ([.ref qa900, .int zi901] : List Value).toArray below meth c H locs 0 0 Q (F0 m 4 ls []) := by
    intro n231
    induction n231 with
    | zero =>
      intro zi164 zi165 H locs ls hm234 bd166 hl hw hS
      exact absurd hm234 (by have := bd166; omega)
    | succ n231 ih232 =>
      intro zi164 zi165 H locs ls hm234 bd166 hl hw hS
      refine lv_iload_n hx hb dX10_liarsBy_4 rfl (lv_at hl 3 rfl) ?_
      refine lv_aload_n hx hb dX10_liarsBy_5 rfl (lv_at hl 0 rfl) ?_
      obtain ⟨zi236, eq235, bd237⟩ := rd_11003 ok0 kd900
      refine p_get (ci := 10) (v := .int zi236) (C := RX10) (T := TX10) (N := 20) hx hb hT iw_X10 hown hK hw hW kd900 (by decide) rfl rfl 3 (by decide) eq235 (hT _ tb_192) (fun _ h9 => h9) dX10_liarsBy_6 ?_
      refine lv_icmp_ge (tgt := 39) hx hb dX10_liarsBy_9 (by decide) (fun cn238 => ?_) (fun cn238 => ?_)
      · skip
        refine lv_iload_n hx hb dX10_liarsBy_39 rfl (lv_at hl 2 rfl) ?_
        rw [hQ]
        exact kz_i hx hb hr hlocks hS rfl hp0 hw ⟨ok0, (Fr.rf)⟩ (Nat.le_of_ble_eq_true rfl) (Nat.le_of_ble_eq_true rfl) dX10_liarsBy_40
      · skip
        have bd267 : (0 : Int) ≤ zi165.toInt ∧ zi165.toInt ≤ 5 := r_lt_x (Int32.not_le.mp cn238) bd166 bd237 (by decide) (by decide)
        have bd268 : (1 : Int) ≤ zi236.toInt ∧ zi236.toInt ≤ 6 := r_lt_y (Int32.not_le.mp cn238) bd166 bd237 (by decide) (by decide)
        refine lv_iload_n hx hb dX10_liarsBy_12 rfl (lv_at hl 2 rfl) ?_
        refine lv_aload_n hx hb dX10_liarsBy_13 rfl (lv_at hl 0 rfl) ?_
        obtain ⟨qa270, eq269, kd271⟩ := rd_11012 ok0 kd900
        refine p_get (ci := 10) (v := .ref qa270) (C := RX10) (T := TX10) (N := 20) hx hb hT iw_X10 hown hK hw hW kd900 (by decide) rfl rfl 12 (by decide) eq269 (hT _ tb_224) (fun _ h9 => h9) dX10_liarsBy_14 ?_
        refine lv_iload_n hx hb dX10_liarsBy_17 rfl (lv_at hl 3 rfl) ?_
        obtain ⟨zi273, eq272⟩ := rd_50000 ok0 kd271 ((zi165 : Int32).toNatClampNeg)
        refine p_iald (v := zi273) hx hb hK hw hW kd271 (by decide) rfl (hW.len kd271 (n := 6) rfl (by decide)) (vp_b bd267 (by decide) (by decide)) eq272 dX10_liarsBy_18 ?_
        refine lv_iload_n hx hb dX10_liarsBy_19 rfl (lv_at hl 1 rfl) ?_
        refine lv_iand hx hb dX10_liarsBy_20 (lv_topi (fun zi274 ea275 => ?_))
        have jn283 : ∀ (zi281 : Int32) (H : Heap) (locs : List Loc) (ls : Array Slot), ((0 : Int) ≤ zi281.toInt ∧ zi281.toInt ≤ 32) → lv_has ls 4 [(0, .ref qa900), (1, .int zi901), (3, .int zi165)] → PW G cy K ln Ls A hp0 H → va_S A s.heap H locs → W p l e ({ frames := 0, cells := 0, slots := 0, locals := 0 } : Room) s m ([.ref qa900, .int zi901] : List Value).toArray below meth c H locs 0 0 Q (F0 m 31 ls [.int zi281, .int zi164]) := by
          intro zi281 H locs ls bd282 hl hw hS
          refine lv_ior hx hb dX10_liarsBy_31 (lv_topi (fun zi284 ea285 => ?_))
          refine lv_istore_n (lv' := [(2, .int zi284), (0, .ref qa900), (1, .int zi901), (3, .int zi165)]) hx hb dX10_liarsBy_32 rfl hl (by decide) rfl (fun ls hl => ?_)
          obtain ⟨zi286, ea287⟩ : ∃ z : Int32, z = zi165 + 1 := ⟨_, rfl⟩
          have bd288 : (1 : Int) ≤ zi286.toInt ∧ zi286.toInt ≤ 6 := b_iadd ea287 bd267 bc_1 (by decide) (by decide) (by decide) (by decide)
          have qe289 : zi286.toInt = (zi165 : Int32).toInt + (1 : Int32).toInt := e_iadd ea287 bd267 bc_1 (by decide) (by decide)
          have qe290 : zi286.toInt = zi165.toInt + 1 := by have ha : (1 : Int32).toInt = 1 := (by decide); rw [ha] at qe289; exact qe289
          refine lv_iinc (v := zi286) (lv' := [(3, .int zi286), (2, .int zi284), (0, .ref qa900), (1, .int zi901)]) hx hb dX10_liarsBy_33 hl (k := 3) rfl ea287.symm (by decide) rfl (fun ls hl => ?_)
          refine lv_goto (tgt := 4) hx hb dX10_liarsBy_36 (by decide) ?_
          exact ih232 zi284 zi286 _ _ ls (by have := hm234; have := qe290; omega) (b_wid2 bd288 (by decide) (by decide)) (lv_sub hl [2, 3, 1, 0] rfl) hw hS
        refine lv_if_eq (tgt := 30) hx hb dX10_liarsBy_21 (by decide) (fun cn276 => ?_) (fun cn276 => ?_)
        · skip
          have bd291 : (0 : Int) ≤ zi274.toInt ∧ zi274.toInt ≤ 0 := r_eq_x cn276 (b_all zi274) bc_0 (by decide) (by decide)
          refine lv_iconst (v := 0) hx hb dX10_liarsBy_30 (by decide) ?_
          exact jn283 0 _ _ ls (b_wid2 bc_0 (by decide) (by decide)) (lv_sub hl [0, 1, 3] rfl) hw hS
        · skip
          refine lv_iconst (v := 1) hx hb dX10_liarsBy_24 (by decide) ?_
          refine lv_iload_n hx hb dX10_liarsBy_25 rfl (lv_at hl 3 rfl) ?_
          refine lv_ishl hx hb dX10_liarsBy_26 (lv_topi (fun zi292 ea293 => ?_))
          have bd294 : (1 : Int) ≤ zi292.toInt ∧ zi292.toInt ≤ 32 := b_shl1 5 ea293 bd267 (by decide) (by decide) (by decide) (by decide) (by decide)
          refine lv_goto (tgt := 31) hx hb dX10_liarsBy_27 (by decide) ?_
          exact jn283 zi292 _ _ ls (b_wid2 bd294 (by decide) (by decide)) (lv_sub hl [0, 1, 3] rfl) hw hS
  exact lp233 _ 0 0 _ _ ls (lp_in _) (b_wid2 bc_0 (by decide) (by decide)) (lv_sub hl [2, 3, 1, 0] rfl) hw hS

set_option maxRecDepth 100000 in
set_option maxHeartbeats 4000000 in
theorem cJ7_fill_53178_0 (l : Launch) (G : va_G) (cy : Nat → ClassId) (ev : Ew) (K ln : Nat → Nat) (Ls : List Nat) (hW : SW K ln Ls) (sz : Nat) (hp0 : Nat → Nat → Value) (ok0 : Ok K hp0) (qa900 : Nat) (zi901 : Int32) (kd900 : K qa900 = 40) (bd901 : ((0 : Int) ≤ zi901.toInt ∧ zi901.toInt ≤ 0)) : Met l yJ7_fill_53178 (WS yJ7_fill_53178 cJ7_fill_53178 4 none) { frames := 0, cells := 0, slots := 0, locals := 0 } (PB2 [.ref qa900, .int zi901] sz G cy ev (va_pl Ls (cellOf cy K ln hp0))) (QBv (S := (Nat → Nat → Value)) (fun u : (Nat → Nat → Value) => Ok K u ∧ Fr [40000] K hp0 u) G (fun u => va_pl Ls (cellOf cy K ln u)) (va_A (va_pl Ls (cellOf cy K ln hp0)) sz)) 0 0 (va_A (va_pl Ls (cellOf cy K ln hp0)) sz) := by
  refine met_of2 (y := yJ7_fill_53178) (L := 4) (av := [.ref qa900, .int zi901]) (Qc := fun A => QBv (S := (Nat → Nat → Value)) (fun u : (Nat → Nat → Value) => Ok K u ∧ Fr [40000] K hp0 u) G (fun u => va_pl Ls (cellOf cy K ln u)) A) (plainFor_of_name (by decide)) (Nat.le_of_ble_eq_true rfl) ?_
  intro p e s m below meth c hsz hx hb hr hml hown hT hlocks hin hK A hA hE hw hS ls hl
  have hw : PW G cy K ln Ls A hp0 s.heap := hw
  have hown : s.vm.findClass "java/util/Arrays" = some m.cls := hown
  have hl : lv_has ls 4 [(0, .ref qa900), (1, .int zi901)] := hl
  obtain ⟨Q, hQ⟩ : ∃ Q : State → Prop, Q = MQ below (QBv (S := (Nat → Nat → Value)) (fun u : (Nat → Nat → Value) => Ok K u ∧ Fr [40000] K hp0 u) G (fun u => va_pl Ls (cellOf cy K ln u)) A) ([.ref qa900, .int zi901] : List Value).toArray s 0 0 A := ⟨_, rfl⟩
  rw [← hQ]
  refine lv_iconst (v := 0) hx hb dJ7_fill_53178_0 (by decide) ?_
  refine lv_istore_n (lv' := [(2, .int 0), (0, .ref qa900), (1, .int zi901)]) hx hb dJ7_fill_53178_1 rfl hl (by decide) rfl (fun ls hl => ?_)
  refine lv_aload_n hx hb dJ7_fill_53178_2 rfl (lv_at hl 1 rfl) ?_
  refine p_alen (v := 8) hx hb hK hw hW kd900 (by decide) rfl rfl (by rw [hW.len kd900 (n := 8) rfl (by decide)]; decide) dJ7_fill_53178_3 ?_
  refine lv_istore_n (lv' := [(3, .int 8), (2, .int 0), (0, .ref qa900), (1, .int zi901)]) hx hb dJ7_fill_53178_4 rfl hl (by decide) rfl (fun ls hl => ?_)
  have lp91 : ∀ (n89 : Nat) (hp63 : Nat → Nat → Value) (zi62 : Int32) (H : Heap) (locs : List Loc) (ls : Array Slot), 8 - zi62.toInt < (n89 : Int) → Ok K hp63 → Fr [40000] K hp0 hp63 → ((0 : Int) ≤ zi62.toInt ∧ zi62.toInt ≤ 8) → lv_has ls 4 [(0, .ref qa900), (1, .int zi901), (2, .int zi62), (3, .int 8)] → PW G cy K ln Ls A hp63 H → va_S A s.heap H locs → W p l e ({ frames := 0, cells := 0, slots := 0, locals := 0 } : Room) s m ([.ref qa900, .int zi901] : List Value).toArray below meth c H locs 0 0 Q (F0 m 5 ls []) := by
    intro n89
    induction n89 with
    | zero =>
      intro hp63 zi62 H locs ls hm92 ok65 F64 bd66 hl hw hS
      exact absurd hm92 (by have := bd66; omega)
    | succ n89 ih90 =>
      intro hp63 zi62 H locs ls hm92 ok65 F64 bd66 hl hw hS
      refine lv_iload_n hx hb dJ7_fill_53178_5 rfl (lv_at hl 2 rfl) ?_
      refine lv_iload_n hx hb dJ7_fill_53178_6 rfl (lv_at hl 3 rfl) ?_
      refine lv_icmp_ge (tgt := 20) hx hb dJ7_fill_53178_7 (by decide) (fun cn93 => ?_) (fun cn93 => ?_)
      · skip
        have bd94 : (8 : Int) ≤ zi62.toInt ∧ zi62.toInt ≤ 8 := r_le_y cn93 bc_8 bd66 (by decide) (by decide)
        rw [hQ]
        exact kz_v hx hb hr hlocks hS hp63 hw ⟨ok65, (Fr.tr (Fr.rf) F64 (by decide))⟩ (Nat.le_of_ble_eq_true rfl) (Nat.le_of_ble_eq_true rfl) dJ7_fill_53178_20
      · skip
        have bd95 : (0 : Int) ≤ zi62.toInt ∧ zi62.toInt ≤ 7 := r_lt_x (Int32.not_le.mp cn93) bd66 bc_8 (by decide) (by decide)
        refine lv_aload_n hx hb dJ7_fill_53178_10 rfl (lv_at hl 0 rfl) ?_
        refine lv_iload_n hx hb dJ7_fill_53178_11 rfl (lv_at hl 2 rfl) ?_
        refine lv_iload_n hx hb dJ7_fill_53178_12 rfl (lv_at hl 1 rfl) ?_
        refine p_iast (x := zi901) hx hb hK hw hS hW kd900 (by decide) rfl (hW.len kd900 (n := 8) rfl (by decide)) (vp_b bd95 (by decide) (by decide)) dJ7_fill_53178_13 (fun hp96 eh97 H locs hw hS => ?_)
        have ok98 := wr_40000 ok65 kd900 eh97
        obtain ⟨zi99, ea100⟩ : ∃ z : Int32, z = zi62 + 1 := ⟨_, rfl⟩
        have bd101 : (1 : Int) ≤ zi99.toInt ∧ zi99.toInt ≤ 8 := b_iadd ea100 bd95 bc_1 (by decide) (by decide) (by decide) (by decide)
        have qe102 : zi99.toInt = (zi62 : Int32).toInt + (1 : Int32).toInt := e_iadd ea100 bd95 bc_1 (by decide) (by decide)
        have qe103 : zi99.toInt = zi62.toInt + 1 := by have ha : (1 : Int32).toInt = 1 := (by decide); rw [ha] at qe102; exact qe102
        refine lv_iinc (v := zi99) (lv' := [(2, .int zi99), (0, .ref qa900), (1, .int zi901), (3, .int 8)]) hx hb dJ7_fill_53178_14 hl (k := 2) rfl ea100.symm (by decide) rfl (fun ls hl => ?_)
        refine lv_goto (tgt := 5) hx hb dJ7_fill_53178_17 (by decide) ?_
        exact ih90 hp96 zi99 _ _ ls (by have := hm92; have := qe103; omega) ok98 (Fr.put (cq := 40000) (Fr.tr (Fr.rf) F64 (by decide)) eh97 kd900 (cd_a (by decide)) (by decide)) (b_wid2 bd101 (by decide) (by decide)) (lv_sub hl [1, 2, 0, 3] rfl) hw hS
  exact lp91 _ hp0 0 _ _ ls (lp_in _) ok0 (Fr.rf) (b_wid2 bc_0 (by decide) (by decide)) (lv_sub hl [2, 3, 1, 0] rfl) hw hS

set_option maxRecDepth 100000 in
set_option maxHeartbeats 4000000 in
theorem cJ7_fill_53178_1 (l : Launch) (G : va_G) (cy : Nat → ClassId) (ev : Ew) (K ln : Nat → Nat) (Ls : List Nat) (hW : SW K ln Ls) (sz : Nat) (hp0 : Nat → Nat → Value) (ok0 : Ok K hp0) (qa900 : Nat) (zi901 : Int32) (kd900 : K qa900 = 41) (bd901 : ((-2 : Int) ≤ zi901.toInt ∧ zi901.toInt ≤ -2)) : Met l yJ7_fill_53178 (WS yJ7_fill_53178 cJ7_fill_53178 4 none) { frames := 0, cells := 0, slots := 0, locals := 0 } (PB2 [.ref qa900, .int zi901] sz G cy ev (va_pl Ls (cellOf cy K ln hp0))) (QBv (S := (Nat → Nat → Value)) (fun u : (Nat → Nat → Value) => Ok K u ∧ Fr [41000] K hp0 u) G (fun u => va_pl Ls (cellOf cy K ln u)) (va_A (va_pl Ls (cellOf cy K ln hp0)) sz)) 0 0 (va_A (va_pl Ls (cellOf cy K ln hp0)) sz) := by
  refine met_of2 (y := yJ7_fill_53178) (L := 4) (av := [.ref qa900, .int zi901]) (Qc := fun A => QBv (S := (Nat → Nat → Value)) (fun u : (Nat → Nat → Value) => Ok K u ∧ Fr [41000] K hp0 u) G (fun u => va_pl Ls (cellOf cy K ln u)) A) (plainFor_of_name (by decide)) (Nat.le_of_ble_eq_true rfl) ?_
  intro p e s m below meth c hsz hx hb hr hml hown hT hlocks hin hK A hA hE hw hS ls hl
  have hw : PW G cy K ln Ls A hp0 s.heap := hw
  have hown : s.vm.findClass "java/util/Arrays" = some m.cls := hown
  have hl : lv_has ls 4 [(0, .ref qa900), (1, .int zi901)] := hl
  obtain ⟨Q, hQ⟩ : ∃ Q : State → Prop, Q = MQ below (QBv (S := (Nat → Nat → Value)) (fun u : (Nat → Nat → Value) => Ok K u ∧ Fr [41000] K hp0 u) G (fun u => va_pl Ls (cellOf cy K ln u)) A) ([.ref qa900, .int zi901] : List Value).toArray s 0 0 A := ⟨_, rfl⟩
  rw [← hQ]
  refine lv_iconst (v := 0) hx hb dJ7_fill_53178_0 (by decide) ?_
  refine lv_istore_n (lv' := [(2, .int 0), (0, .ref qa900), (1, .int zi901)]) hx hb dJ7_fill_53178_1 rfl hl (by decide) rfl (fun ls hl => ?_)
  refine lv_aload_n hx hb dJ7_fill_53178_2 rfl (lv_at hl 1 rfl) ?_
  refine p_alen (v := 8) hx hb hK hw hW kd900 (by decide) rfl rfl (by rw [hW.len kd900 (n := 8) rfl (by decide)]; decide) dJ7_fill_53178_3 ?_
  refine lv_istore_n (lv' := [(3, .int 8), (2, .int 0), (0, .ref qa900), (1, .int zi901)]) hx hb dJ7_fill_53178_4 rfl hl (by decide) rfl (fun ls hl => ?_)
  have lp91 : ∀ (n89 : Nat) (hp63 : Nat → Nat → Value) (zi62 : Int32) (H : Heap) (locs : List Loc) (ls : Array Slot), 8 - zi62.toInt < (n89 : Int) → Ok K hp63 → Fr [41000] K hp0 hp63 → ((0 : Int) ≤ zi62.toInt ∧ zi62.toInt ≤ 8) → lv_has ls 4 [(0, .ref qa900), (1, .int zi901), (2, .int zi62), (3, .int 8)] → PW G cy K ln Ls A hp63 H → va_S A s.heap H locs → W p l e ({ frames := 0, cells := 0, slots := 0, locals := 0 } : Room) s m ([.ref qa900, .int zi901] : List Value).toArray below meth c H locs 0 0 Q (F0 m 5 ls []) := by
    intro n89
    induction n89 with
    | zero =>
      intro hp63 zi62 H locs ls hm92 ok65 F64 bd66 hl hw hS
      exact absurd hm92 (by have := bd66; omega)
    | succ n89 ih90 =>
      intro hp63 zi62 H locs ls hm92 ok65 F64 bd66 hl hw hS
      refine lv_iload_n hx hb dJ7_fill_53178_5 rfl (lv_at hl 2 rfl) ?_
      refine lv_iload_n hx hb dJ7_fill_53178_6 rfl (lv_at hl 3 rfl) ?_
      refine lv_icmp_ge (tgt := 20) hx hb dJ7_fill_53178_7 (by decide) (fun cn93 => ?_) (fun cn93 => ?_)
      · skip
        have bd94 : (8 : Int) ≤ zi62.toInt ∧ zi62.toInt ≤ 8 := r_le_y cn93 bc_8 bd66 (by decide) (by decide)
        rw [hQ]
        exact kz_v hx hb hr hlocks hS hp63 hw ⟨ok65, (Fr.tr (Fr.rf) F64 (by decide))⟩ (Nat.le_of_ble_eq_true rfl) (Nat.le_of_ble_eq_true rfl) dJ7_fill_53178_20
      · skip
        have bd95 : (0 : Int) ≤ zi62.toInt ∧ zi62.toInt ≤ 7 := r_lt_x (Int32.not_le.mp cn93) bd66 bc_8 (by decide) (by decide)
        refine lv_aload_n hx hb dJ7_fill_53178_10 rfl (lv_at hl 0 rfl) ?_
        refine lv_iload_n hx hb dJ7_fill_53178_11 rfl (lv_at hl 2 rfl) ?_
        refine lv_iload_n hx hb dJ7_fill_53178_12 rfl (lv_at hl 1 rfl) ?_
        refine p_iast (x := zi901) hx hb hK hw hS hW kd900 (by decide) rfl (hW.len kd900 (n := 8) rfl (by decide)) (vp_b bd95 (by decide) (by decide)) dJ7_fill_53178_13 (fun hp96 eh97 H locs hw hS => ?_)
        have ok98 := wr_41000 ok65 kd900 eh97
        obtain ⟨zi99, ea100⟩ : ∃ z : Int32, z = zi62 + 1 := ⟨_, rfl⟩
        have bd101 : (1 : Int) ≤ zi99.toInt ∧ zi99.toInt ≤ 8 := b_iadd ea100 bd95 bc_1 (by decide) (by decide) (by decide) (by decide)
        have qe102 : zi99.toInt = (zi62 : Int32).toInt + (1 : Int32).toInt := e_iadd ea100 bd95 bc_1 (by decide) (by decide)
        have qe103 : zi99.toInt = zi62.toInt + 1 := by have ha : (1 : Int32).toInt = 1 := (by decide); rw [ha] at qe102; exact qe102
        refine lv_iinc (v := zi99) (lv' := [(2, .int zi99), (0, .ref qa900), (1, .int zi901), (3, .int 8)]) hx hb dJ7_fill_53178_14 hl (k := 2) rfl ea100.symm (by decide) rfl (fun ls hl => ?_)
        refine lv_goto (tgt := 5) hx hb dJ7_fill_53178_17 (by decide) ?_
        exact ih90 hp96 zi99 _ _ ls (by have := hm92; have := qe103; omega) ok98 (Fr.put (cq := 41000) (Fr.tr (Fr.rf) F64 (by decide)) eh97 kd900 (cd_a (by decide)) (by decide)) (b_wid2 bd101 (by decide) (by decide)) (lv_sub hl [1, 2, 0, 3] rfl) hw hS
  exact lp91 _ hp0 0 _ _ ls (lp_in _) ok0 (Fr.rf) (b_wid2 bc_0 (by decide) (by decide)) (lv_sub hl [2, 3, 1, 0] rfl) hw hS

set_option maxRecDepth 100000 in
set_option maxHeartbeats 4000000 in
theorem cJ7_fill_53178_2 (l : Launch) (G : va_G) (cy : Nat → ClassId) (ev : Ew) (K ln : Nat → Nat) (Ls : List Nat) (hW : SW K ln Ls) (sz : Nat) (hp0 : Nat → Nat → Value) (ok0 : Ok K hp0) (qa900 : Nat) (zi901 : Int32) (kd900 : K qa900 = 42) (bd901 : ((0 : Int) ≤ zi901.toInt ∧ zi901.toInt ≤ 0)) : Met l yJ7_fill_53178 (WS yJ7_fill_53178 cJ7_fill_53178 4 none) { frames := 0, cells := 0, slots := 0, locals := 0 } (PB2 [.ref qa900, .int zi901] sz G cy ev (va_pl Ls (cellOf cy K ln hp0))) (QBv (S := (Nat → Nat → Value)) (fun u : (Nat → Nat → Value) => Ok K u ∧ Fr [42000] K hp0 u) G (fun u => va_pl Ls (cellOf cy K ln u)) (va_A (va_pl Ls (cellOf cy K ln hp0)) sz)) 0 0 (va_A (va_pl Ls (cellOf cy K ln hp0)) sz) := by
  refine met_of2 (y := yJ7_fill_53178) (L := 4) (av := [.ref qa900, .int zi901]) (Qc := fun A => QBv (S := (Nat → Nat → Value)) (fun u : (Nat → Nat → Value) => Ok K u ∧ Fr [42000] K hp0 u) G (fun u => va_pl Ls (cellOf cy K ln u)) A) (plainFor_of_name (by decide)) (Nat.le_of_ble_eq_true rfl) ?_
  intro p e s m below meth c hsz hx hb hr hml hown hT hlocks hin hK A hA hE hw hS ls hl
  have hw : PW G cy K ln Ls A hp0 s.heap := hw
  have hown : s.vm.findClass "java/util/Arrays" = some m.cls := hown
  have hl : lv_has ls 4 [(0, .ref qa900), (1, .int zi901)] := hl
  obtain ⟨Q, hQ⟩ : ∃ Q : State → Prop, Q = MQ below (QBv (S := (Nat → Nat → Value)) (fun u : (Nat → Nat → Value) => Ok K u ∧ Fr [42000] K hp0 u) G (fun u => va_pl Ls (cellOf cy K ln u)) A) ([.ref qa900, .int zi901] : List Value).toArray s 0 0 A := ⟨_, rfl⟩
  rw [← hQ]
  refine lv_iconst (v := 0) hx hb dJ7_fill_53178_0 (by decide) ?_
  refine lv_istore_n (lv' := [(2, .int 0), (0, .ref qa900), (1, .int zi901)]) hx hb dJ7_fill_53178_1 rfl hl (by decide) rfl (fun ls hl => ?_)
  refine lv_aload_n hx hb dJ7_fill_53178_2 rfl (lv_at hl 1 rfl) ?_
  refine p_alen (v := 6) hx hb hK hw hW kd900 (by decide) rfl rfl (by rw [hW.len kd900 (n := 6) rfl (by decide)]; decide) dJ7_fill_53178_3 ?_
  refine lv_istore_n (lv' := [(3, .int 6), (2, .int 0), (0, .ref qa900), (1, .int zi901)]) hx hb dJ7_fill_53178_4 rfl hl (by decide) rfl (fun ls hl => ?_)
  have lp91 : ∀ (n89 : Nat) (hp63 : Nat → Nat → Value) (zi62 : Int32) (H : Heap) (locs : List Loc) (ls : Array Slot), 6 - zi62.toInt < (n89 : Int) → Ok K hp63 → Fr [42000] K hp0 hp63 → ((0 : Int) ≤ zi62.toInt ∧ zi62.toInt ≤ 6) → lv_has ls 4 [(0, .ref qa900), (1, .int zi901), (2, .int zi62), (3, .int 6)] → PW G cy K ln Ls A hp63 H → va_S A s.heap H locs → W p l e ({ frames := 0, cells := 0, slots := 0, locals := 0 } : Room) s m ([.ref qa900, .int zi901] : List Value).toArray below meth c H locs 0 0 Q (F0 m 5 ls []) := by
    intro n89
    induction n89 with
    | zero =>
      intro hp63 zi62 H locs ls hm92 ok65 F64 bd66 hl hw hS
      exact absurd hm92 (by have := bd66; omega)
    | succ n89 ih90 =>
      intro hp63 zi62 H locs ls hm92 ok65 F64 bd66 hl hw hS
      refine lv_iload_n hx hb dJ7_fill_53178_5 rfl (lv_at hl 2 rfl) ?_
      refine lv_iload_n hx hb dJ7_fill_53178_6 rfl (lv_at hl 3 rfl) ?_
      refine lv_icmp_ge (tgt := 20) hx hb dJ7_fill_53178_7 (by decide) (fun cn93 => ?_) (fun cn93 => ?_)
      · skip
        have bd94 : (6 : Int) ≤ zi62.toInt ∧ zi62.toInt ≤ 6 := r_le_y cn93 bc_6 bd66 (by decide) (by decide)
        rw [hQ]
        exact kz_v hx hb hr hlocks hS hp63 hw ⟨ok65, (Fr.tr (Fr.rf) F64 (by decide))⟩ (Nat.le_of_ble_eq_true rfl) (Nat.le_of_ble_eq_true rfl) dJ7_fill_53178_20
      · skip
        have bd95 : (0 : Int) ≤ zi62.toInt ∧ zi62.toInt ≤ 5 := r_lt_x (Int32.not_le.mp cn93) bd66 bc_6 (by decide) (by decide)
        refine lv_aload_n hx hb dJ7_fill_53178_10 rfl (lv_at hl 0 rfl) ?_
        refine lv_iload_n hx hb dJ7_fill_53178_11 rfl (lv_at hl 2 rfl) ?_
        refine lv_iload_n hx hb dJ7_fill_53178_12 rfl (lv_at hl 1 rfl) ?_
        refine p_iast (x := zi901) hx hb hK hw hS hW kd900 (by decide) rfl (hW.len kd900 (n := 6) rfl (by decide)) (vp_b bd95 (by decide) (by decide)) dJ7_fill_53178_13 (fun hp96 eh97 H locs hw hS => ?_)
        have ok98 := wr_42000 ok65 kd900 eh97
        obtain ⟨zi99, ea100⟩ : ∃ z : Int32, z = zi62 + 1 := ⟨_, rfl⟩
        have bd101 : (1 : Int) ≤ zi99.toInt ∧ zi99.toInt ≤ 6 := b_iadd ea100 bd95 bc_1 (by decide) (by decide) (by decide) (by decide)
        have qe102 : zi99.toInt = (zi62 : Int32).toInt + (1 : Int32).toInt := e_iadd ea100 bd95 bc_1 (by decide) (by decide)
        have qe103 : zi99.toInt = zi62.toInt + 1 := by have ha : (1 : Int32).toInt = 1 := (by decide); rw [ha] at qe102; exact qe102
        refine lv_iinc (v := zi99) (lv' := [(2, .int zi99), (0, .ref qa900), (1, .int zi901), (3, .int 6)]) hx hb dJ7_fill_53178_14 hl (k := 2) rfl ea100.symm (by decide) rfl (fun ls hl => ?_)
        refine lv_goto (tgt := 5) hx hb dJ7_fill_53178_17 (by decide) ?_
        exact ih90 hp96 zi99 _ _ ls (by have := hm92; have := qe103; omega) ok98 (Fr.put (cq := 42000) (Fr.tr (Fr.rf) F64 (by decide)) eh97 kd900 (cd_a (by decide)) (by decide)) (b_wid2 bd101 (by decide) (by decide)) (lv_sub hl [1, 2, 0, 3] rfl) hw hS
  exact lp91 _ hp0 0 _ _ ls (lp_in _) ok0 (Fr.rf) (b_wid2 bc_0 (by decide) (by decide)) (lv_sub hl [2, 3, 1, 0] rfl) hw hS

set_option maxRecDepth 100000 in
set_option maxHeartbeats 4000000 in
theorem cX7_begin_0 (l : Launch) (G : va_G) (cy : Nat → ClassId) (ev : Ew) (K ln : Nat → Nat) (Ls : List Nat) (hW : SW K ln Ls) (sz : Nat) (hp0 : Nat → Nat → Value) (ok0 : Ok K hp0) (qa900 : Nat) (qa901 : Nat) (kd900 : K qa900 = 8) (kd901 : K qa901 = 11) : Met l yX7_begin (WS yX7_begin cX7_begin 3 none) { frames := 1, cells := 0, slots := 0, locals := 23 } (PB2 [.ref qa900, .ref qa901] sz G cy ev (va_pl Ls (cellOf cy K ln hp0))) (QBv (S := (Nat → Nat → Value)) (fun u : (Nat → Nat → Value) => Ok K u ∧ Fr [8000, 8001, 8002, 8003, 8004, 8005, 40000, 41000, 42000] K hp0 u) G (fun u => va_pl Ls (cellOf cy K ln u)) (va_A (va_pl Ls (cellOf cy K ln hp0)) sz)) 0 0 (va_A (va_pl Ls (cellOf cy K ln hp0)) sz) := by
  refine met_of2 (y := yX7_begin) (L := 3) (av := [.ref qa900, .ref qa901]) (Qc := fun A => QBv (S := (Nat → Nat → Value)) (fun u : (Nat → Nat → Value) => Ok K u ∧ Fr [8000, 8001, 8002, 8003, 8004, 8005, 40000, 41000, 42000] K hp0 u) G (fun u => va_pl Ls (cellOf cy K ln u)) A) (plainFor_of_name (by decide)) (Nat.le_of_ble_eq_true rfl) ?_
  intro p e s m below meth c hsz hx hb hr hml hown hT hlocks hin hK A hA hE hw hS ls hl
  have hw : PW G cy K ln Ls A hp0 s.heap := hw
  have hown : s.vm.findClass "LieClock$State" = some m.cls := hown
  have hl : lv_has ls 3 [(0, .ref qa900), (1, .ref qa901)] := hl
  obtain ⟨Q, hQ⟩ : ∃ Q : State → Prop, Q = MQ below (QBv (S := (Nat → Nat → Value)) (fun u : (Nat → Nat → Value) => Ok K u ∧ Fr [8000, 8001, 8002, 8003, 8004, 8005, 40000, 41000, 42000] K hp0 u) G (fun u => va_pl Ls (cellOf cy K ln u)) A) ([.ref qa900, .ref qa901] : List Value).toArray s 0 0 A := ⟨_, rfl⟩
  rw [← hQ]
  refine lv_aload_n hx hb dX7_begin_0 rfl (lv_at hl 0 rfl) ?_
  refine lv_aload_n hx hb dX7_begin_1 rfl (lv_at hl 1 rfl) ?_
  obtain ⟨zi2, eq1⟩ := rd_11008 ok0 kd901
  refine p_getN (ci := 10) (v := .int zi2) (C := RX10) (T := TX10) (N := 20) hx hb hT iw_X10 hown hK hw hW kd901 (by decide) rfl rfl 8 (by decide) eq1 (hK.fl nw_112) (fun _ h9 => h9) dX7_begin_2 ?_
  refine p_put (ci := 7) (v := .int zi2) (ty := .int) (C := RX7) (T := TX7) (N := 13) hx hb hT iw_X7 tyX7 tyX7_ok nmX7 hown hK hw hS hW kd900 (by decide) rfl rfl 0 (by decide) (hT _ tb_411) (fun _ h9 => h9) rfl (by decide +kernel) rfl rfl dX7_begin_5 (fun hp3 eh4 H locs hw hS => ?_)
  have ok5 := wr_8000 ok0 kd900 eh4
  refine lv_aload_n hx hb dX7_begin_8 rfl (lv_at hl 0 rfl) ?_
  refine lv_iconst (v := 0) hx hb dX7_begin_9 (by decide) ?_
  refine p_put (ci := 7) (v := .int 0) (ty := .int) (C := RX7) (T := TX7) (N := 13) hx hb hT iw_X7 tyX7 tyX7_ok nmX7 hown hK hw hS hW kd900 (by decide) rfl rfl 1 (by decide) (hT _ tb_416) (fun _ h9 => h9) rfl (by decide +kernel) rfl rfl dX7_begin_10 (fun hp6 eh7 H locs hw hS => ?_)
  have ok8 := wr_8001 ok5 kd900 eh7
  refine lv_aload_n hx hb dX7_begin_13 rfl (lv_at hl 0 rfl) ?_
  refine lv_iconst (v := 0) hx hb dX7_begin_14 (by decide) ?_
  refine p_put (ci := 7) (v := .int 0) (ty := .int) (C := RX7) (T := TX7) (N := 13) hx hb hT iw_X7 tyX7 tyX7_ok nmX7 hown hK hw hS hW kd900 (by decide) rfl rfl 2 (by decide) (hT _ tb_420) (fun _ h9 => h9) rfl (by decide +kernel) rfl rfl dX7_begin_15 (fun hp9 eh10 H locs hw hS => ?_)
  have ok11 := wr_8002 ok8 kd900 eh10
  refine lv_aload_n hx hb dX7_begin_18 rfl (lv_at hl 0 rfl) ?_
  refine lv_aload_n hx hb dX7_begin_19 rfl (lv_at hl 1 rfl) ?_
  obtain ⟨zi13, eq12⟩ := rd_11002 ok11 kd901
  refine p_getN (ci := 10) (v := .int zi13) (C := RX10) (T := TX10) (N := 20) hx hb hT iw_X10 hown hK hw hW kd901 (by decide) rfl rfl 2 (by decide) eq12 (hK.fl nw_87) (fun _ h9 => h9) dX7_begin_20 ?_
  refine p_put (ci := 7) (v := .int zi13) (ty := .int) (C := RX7) (T := TX7) (N := 13) hx hb hT iw_X7 tyX7 tyX7_ok nmX7 hown hK hw hS hW kd900 (by decide) rfl rfl 3 (by decide) (hT _ tb_424) (fun _ h9 => h9) rfl (by decide +kernel) rfl rfl dX7_begin_23 (fun hp14 eh15 H locs hw hS => ?_)
  have ok16 := wr_8003 ok11 kd900 eh15
  refine lv_aload_n hx hb dX7_begin_26 rfl (lv_at hl 0 rfl) ?_
  refine lv_iconst (v := 0) hx hb dX7_begin_27 (by decide) ?_
  refine p_put (ci := 7) (v := .int 0) (ty := .int) (C := RX7) (T := TX7) (N := 13) hx hb hT iw_X7 tyX7 tyX7_ok nmX7 hown hK hw hS hW kd900 (by decide) rfl rfl 4 (by decide) (hT _ tb_426) (fun _ h9 => h9) rfl (by decide +kernel) rfl rfl dX7_begin_28 (fun hp17 eh18 H locs hw hS => ?_)
  have ok19 := wr_8004 ok16 kd900 eh18
  refine lv_aload_n hx hb dX7_begin_31 rfl (lv_at hl 0 rfl) ?_
  refine lv_aload_n hx hb dX7_begin_32 rfl (lv_at hl 1 rfl) ?_
  obtain ⟨wl21, eq20⟩ := rd_11009 ok19 kd901
  refine p_getN (ci := 10) (v := .long wl21) (C := RX10) (T := TX10) (N := 20) hx hb hT iw_X10 hown hK hw hW kd901 (by decide) rfl rfl 9 (by decide) eq20 (hK.fl nw_115) (fun _ h9 => h9) dX7_begin_33 ?_
  refine p_put (ci := 7) (v := .long wl21) (ty := .long) (C := RX7) (T := TX7) (N := 13) hx hb hT iw_X7 tyX7 tyX7_ok nmX7 hown hK hw hS hW kd900 (by decide) rfl rfl 5 (by decide) (hT _ tb_429) (fun _ h9 => h9) rfl (by decide +kernel) rfl rfl dX7_begin_36 (fun hp22 eh23 H locs hw hS => ?_)
  have ok24 := wr_8005 ok19 kd900 eh23
  refine lv_iconst (v := 0) hx hb dX7_begin_39 (by decide) ?_
  refine lv_istore_n (lv' := [(2, .int 0), (0, .ref qa900), (1, .ref qa901)]) hx hb dX7_begin_40 rfl hl (by decide) rfl (fun ls hl => ?_)
  have lp379 : ∀ (n377 : Nat) (hp277 : Nat → Nat → Value) (zi276 : Int32) (H : Heap) (locs : List Loc) (ls : Array Slot), 6 - zi276.toInt < (n377 : Int) → Ok K hp277 → Fr [8005] K hp22 hp277 → ((0 : Int) ≤ zi276.toInt ∧ zi276.toInt ≤ 6) → lv_has ls 3 [(0, .ref qa900), (1, .ref qa901), (2, .int zi276)] → PW G cy K ln Ls A hp277 H → va_S A s.heap H locs → W p l e ({ frames := 1, cells := 0, slots := 0, locals := 23 } : Room) s m ([.ref qa900, .ref qa901] : List Value).toArray below meth c H locs 0 0 Q (F0 m 41 ls []) := by
    intro n377
    induction n377 with
    | zero =>
      intro hp277 zi276 H locs ls hm380 ok279 F278 bd280 hl hw hS
      exact absurd hm380 (by have := bd280; omega)
    | succ n377 ih378 =>
      intro hp277 zi276 H locs ls hm380 ok279 F278 bd280 hl hw hS
      refine lv_iload_n hx hb dX7_begin_41 rfl (lv_at hl 2 rfl) ?_
      refine lv_aload_n hx hb dX7_begin_42 rfl (lv_at hl 1 rfl) ?_
      obtain ⟨zi382, eq381, bd383⟩ := rd_11000 ok279 kd901
      refine p_getN (ci := 10) (v := .int zi382) (C := RX10) (T := TX10) (N := 20) hx hb hT iw_X10 hown hK hw hW kd901 (by decide) rfl rfl 0 (by decide) eq381 (hK.fl nw_80) (fun _ h9 => h9) dX7_begin_43 ?_
      refine lv_icmp_ge (tgt := 80) hx hb dX7_begin_46 (by decide) (fun cn384 => ?_) (fun cn384 => ?_)
      · skip
        refine lv_aload_n hx hb dX7_begin_80 rfl (lv_at hl 0 rfl) ?_
        obtain ⟨qa430, eq429, kd431⟩ := rd_8010 ok279 kd900
        refine p_get (ci := 7) (v := .ref qa430) (C := RX7) (T := TX7) (N := 13) hx hb hT iw_X7 hown hK hw hW kd900 (by decide) rfl rfl 10 (by decide) eq429 (hT _ tb_438) (fun _ h9 => h9) dX7_begin_81 ?_
        refine lv_iconst (v := 0) hx hb dX7_begin_84 (by decide) ?_
        refine kq_v hw hS hA (va_runS (As := [.ref qa430, .int 0]) (rest := []) ⟨hx, hb, hml, hown, hT⟩ (cJ7_fill_53178_0 l G cy ev K ln Ls hW _ hp277 ok279 qa430 0 kd431 (b_wid2 bc_0 (by decide) (by decide))) (va_cwS 2 hT (good_S tb_483 tb_481 tb_482 tb_116) rfl rfl rfl (by decide +kernel) ⟨Nat.le_of_ble_eq_true rfl, Nat.le_of_ble_eq_true rfl⟩) (PB2.preS hK hE hS hA hw) rfl rfl hl.1 rfl (lv_room (Nat.le_of_ble_eq_true rfl)) dX7_begin_85 ⟨Nat.le_of_ble_eq_true rfl, Nat.le_of_ble_eq_true rfl⟩) (fun hp432 H locs hq435 hw hS => ?_)
        obtain ⟨ok433, F434⟩ := hq435
        have hw : PW G cy K ln Ls A hp432 H := hw
        refine lv_aload_n hx hb dX7_begin_88 rfl (lv_at hl 0 rfl) ?_
        obtain ⟨qa438, eq437, kd439⟩ := rd_8011 ok433 kd900
        refine p_get (ci := 7) (v := .ref qa438) (C := RX7) (T := TX7) (N := 13) hx hb hT iw_X7 hown hK hw hW kd900 (by decide) rfl rfl 11 (by decide) eq437 (hT _ tb_440) (fun _ h9 => h9) dX7_begin_89 ?_
        refine lv_bipush (v := (-2)) hx hb dX7_begin_92 (by decide) ?_
        refine kq_v hw hS hA (va_runS (As := [.ref qa438, .int (-2)]) (rest := []) ⟨hx, hb, hml, hown, hT⟩ (cJ7_fill_53178_1 l G cy ev K ln Ls hW _ hp432 ok433 qa438 (-2) kd439 (b_wid2 bc_m2 (by decide) (by decide))) (va_cwS 2 hT (good_S tb_483 tb_481 tb_482 tb_116) rfl rfl rfl (by decide +kernel) ⟨Nat.le_of_ble_eq_true rfl, Nat.le_of_ble_eq_true rfl⟩) (PB2.preS hK hE hS hA hw) rfl rfl hl.1 rfl (lv_room (Nat.le_of_ble_eq_true rfl)) dX7_begin_94 ⟨Nat.le_of_ble_eq_true rfl, Nat.le_of_ble_eq_true rfl⟩) (fun hp440 H locs hq443 hw hS => ?_)
        obtain ⟨ok441, F442⟩ := hq443
        have hw : PW G cy K ln Ls A hp440 H := hw
        refine lv_aload_n hx hb dX7_begin_97 rfl (lv_at hl 0 rfl) ?_
        obtain ⟨qa446, eq445, kd447⟩ := rd_8012 ok441 kd900
        refine p_get (ci := 7) (v := .ref qa446) (C := RX7) (T := TX7) (N := 13) hx hb hT iw_X7 hown hK hw hW kd900 (by decide) rfl rfl 12 (by decide) eq445 (hT _ tb_442) (fun _ h9 => h9) dX7_begin_98 ?_
        refine lv_iconst (v := 0) hx hb dX7_begin_101 (by decide) ?_
        refine kq_v hw hS hA (va_runS (As := [.ref qa446, .int 0]) (rest := []) ⟨hx, hb, hml, hown, hT⟩ (cJ7_fill_53178_2 l G cy ev K ln Ls hW _ hp440 ok441 qa446 0 kd447 (b_wid2 bc_0 (by decide) (by decide))) (va_cwS 2 hT (good_S tb_483 tb_481 tb_482 tb_116) rfl rfl rfl (by decide +kernel) ⟨Nat.le_of_ble_eq_true rfl, Nat.le_of_ble_eq_true rfl⟩) (PB2.preS hK hE hS hA hw) rfl rfl hl.1 rfl (lv_room (Nat.le_of_ble_eq_true rfl)) dX7_begin_102 ⟨Nat.le_of_ble_eq_true rfl, Nat.le_of_ble_eq_true rfl⟩) (fun hp448 H locs hq451 hw hS => ?_)
        obtain ⟨ok449, F450⟩ := hq451
        have hw : PW G cy K ln Ls A hp448 H := hw
        rw [hQ]
        exact kz_v hx hb hr hlocks hS hp448 hw ⟨ok449, (Fr.tr (Fr.tr (Fr.tr (Fr.tr (Fr.put (cq := 8005) (Fr.put (cq := 8004) (Fr.put (cq := 8003) (Fr.put (cq := 8002) (Fr.put (cq := 8001) (Fr.put (cq := 8000) (Fr.rf) eh4 kd900 (cd_o (by decide)) (by decide)) eh7 kd900 (cd_o (by decide)) (by decide)) eh10 kd900 (cd_o (by decide)) (by decide)) eh15 kd900 (cd_o (by decide)) (by decide)) eh18 kd900 (cd_o (by decide)) (by decide)) eh23 kd900 (cd_o (by decide)) (by decide)) F278 (by decide)) F434 (by decide)) F442 (by decide)) F450 (by decide))⟩ (Nat.le_of_ble_eq_true rfl) (Nat.le_of_ble_eq_true rfl) dX7_begin_105
      · skip
        have bd453 : (0 : Int) ≤ zi276.toInt ∧ zi276.toInt ≤ 5 := r_lt_x (Int32.not_le.mp cn384) bd280 bd383 (by decide) (by decide)
        have bd454 : (1 : Int) ≤ zi382.toInt ∧ zi382.toInt ≤ 6 := r_lt_y (Int32.not_le.mp cn384) bd280 bd383 (by decide) (by decide)
        refine lv_aload_n hx hb dX7_begin_49 rfl (lv_at hl 0 rfl) ?_
        have eq455 : hp277 qa900 3 = .int zi13 := Eq.trans (Fr.at (cq := 8003) F278 kd900 (cd_o (by decide)) (by decide)) (Eq.trans (up_at eh23 (Or.inr (by decide))) (Eq.trans (up_at eh18 (Or.inr (by decide))) (hp_self eh15)))
        refine p_get (ci := 7) (v := .int zi13) (C := RX7) (T := TX7) (N := 13) hx hb hT iw_X7 hown hK hw hW kd900 (by decide) rfl rfl 3 (by decide) eq455 (hT _ tb_424) (fun _ h9 => h9) dX7_begin_50 ?_
        refine lv_iload_n hx hb dX7_begin_53 rfl (lv_at hl 2 rfl) ?_
        refine lv_ishr hx hb dX7_begin_54 (lv_topi (fun zi456 ea457 => ?_))
        refine lv_iconst (v := 1) hx hb dX7_begin_55 (by decide) ?_
        refine lv_iand hx hb dX7_begin_56 (lv_topi (fun zi458 ea459 => ?_))
        have bd460 : (0 : Int) ≤ zi458.toInt ∧ zi458.toInt ≤ 1 := b_and_r ea459 bc_1 (by decide) (by decide) (by decide)
        have jn478 : ∀ (hp475 : Nat → Nat → Value)  (H : Heap) (locs : List Loc) (ls : Array Slot), Ok K hp475 → Fr [8005] K hp277 hp475 → lv_has ls 3 [(0, .ref qa900), (1, .ref qa901), (2, .int zi276)] → PW G cy K ln Ls A hp475 H → va_S A s.heap H locs → W p l e ({ frames := 1, cells := 0, slots := 0, locals := 23 } : Room) s m ([.ref qa900, .ref qa901] : List Value).toArray below meth c H locs 0 0 Q (F0 m 74 ls []) := by
          intro hp475 H locs ls ok477 F476 hl hw hS
          obtain ⟨zi479, ea480⟩ : ∃ z : Int32, z = zi276 + 1 := ⟨_, rfl⟩
          have bd481 : (1 : Int) ≤ zi479.toInt ∧ zi479.toInt ≤ 6 := b_iadd ea480 bd453 bc_1 (by decide) (by decide) (by decide) (by decide)
          have qe482 : zi479.toInt = (zi276 : Int32).toInt + (1 : Int32).toInt := e_iadd ea480 bd453 bc_1 (by decide) (by decide)
          have qe483 : zi479.toInt = zi276.toInt + 1 := by have ha : (1 : Int32).toInt = 1 := (by decide); rw [ha] at qe482; exact qe482
          refine lv_iinc (v := zi479) (lv' := [(2, .int zi479), (0, .ref qa900), (1, .ref qa901)]) hx hb dX7_begin_74 hl (k := 2) rfl ea480.symm (by decide) rfl (fun ls hl => ?_)
          refine lv_goto (tgt := 41) hx hb dX7_begin_77 (by decide) ?_
          exact ih378 hp475 zi479 _ _ ls (by have := hm380; have := qe483; omega) ok477 (Fr.tr (Fr.tr (Fr.rf) F278 (by decide)) F476 (by decide)) (b_wid2 bd481 (by decide) (by decide)) (lv_sub hl [1, 2, 0] rfl) hw hS
        refine lv_if_eq (tgt := 74) hx hb dX7_begin_57 (by decide) (fun cn461 => ?_) (fun cn461 => ?_)
        · skip
          have bd484 : (0 : Int) ≤ zi458.toInt ∧ zi458.toInt ≤ 0 := r_eq_x cn461 bd460 bc_0 (by decide) (by decide)
          exact jn478 hp277 _ _ ls ok279 (Fr.rf) (lv_sub hl [0, 1, 2] rfl) hw hS
        · skip
          have bd485 : (1 : Int) ≤ zi458.toInt ∧ zi458.toInt ≤ 1 := r_ne_lo cn461 bd460 (toi bc_0) (by decide) (by decide)
          refine lv_aload_n hx hb dX7_begin_60 rfl (lv_at hl 0 rfl) ?_
          refine lv_dup hx hb dX7_begin_61 rfl ?_
          obtain ⟨wl487, eq486⟩ := rd_8005 ok279 kd900
          refine p_get (ci := 7) (v := .long wl487) (C := RX7) (T := TX7) (N := 13) hx hb hT iw_X7 hown hK hw hW kd900 (by decide) rfl rfl 5 (by decide) eq486 (hT _ tb_429) (fun _ h9 => h9) dX7_begin_62 ?_
          refine lv_aload_n hx hb dX7_begin_65 rfl (lv_at hl 1 rfl) ?_
          refine lv_iload_n hx hb dX7_begin_66 rfl (lv_at hl 2 rfl) ?_
          refine kq_l hw hS hA (va_runV (As := [.int zi276]) (rest := [.long wl487, .ref qa900]) ⟨hx, hb, hml, hown, hT⟩ (cX10_asItIs_0 l G cy ev K ln Ls hW _ hp277 ok279 qa901 zi276 kd901) (cwV 1 hT (good_V tb_478 tb_475 tb_476 tb_477 tb_107) rfl rfl rfl (by decide +kernel) ⟨Nat.le_of_ble_eq_true rfl, Nat.le_of_ble_eq_true rfl⟩) (pool_preV (ci := 10) hK hE hS hA hw hW kd901 (by decide) rfl) rfl rfl hl.1 rfl (lv_room (Nat.le_of_ble_eq_true rfl)) dX7_begin_67 ⟨Nat.le_of_ble_eq_true rfl, Nat.le_of_ble_eq_true rfl⟩) (fun wl492 hp488 H locs hq491 hw hS => ?_)
          obtain ⟨ok489, F490⟩ := hq491
          obtain rfl : hp277 = hp488 := (Fr.nil F490).symm
          have hw : PW G cy K ln Ls A hp277 H := hw
          refine lv_land hx hb dX7_begin_70 (lv_topl (fun wl493 _ => ?_))
          refine p_put (ci := 7) (v := .long wl493) (ty := .long) (C := RX7) (T := TX7) (N := 13) hx hb hT iw_X7 tyX7 tyX7_ok nmX7 hown hK hw hS hW kd900 (by decide) rfl rfl 5 (by decide) (hT _ tb_429) (fun _ h9 => h9) rfl (by decide +kernel) rfl rfl dX7_begin_71 (fun hp494 eh495 H locs hw hS => ?_)
          have ok496 := wr_8005 ok279 kd900 eh495
          exact jn478 hp494 _ _ ls ok496 (Fr.put (cq := 8005) (Fr.rf) eh495 kd900 (cd_o (by decide)) (by decide)) (lv_sub hl [0, 1, 2] rfl) hw hS
  exact lp379 _ hp22 0 _ _ ls (lp_in _) ok24 (Fr.rf) (b_wid2 bc_0 (by decide) (by decide)) (lv_sub hl [1, 2, 0] rfl) hw hS

set_option maxRecDepth 100000 in
set_option maxHeartbeats 4000000 in
theorem cX7_copyMoment_0 (l : Launch) (G : va_G) (cy : Nat → ClassId) (ev : Ew) (K ln : Nat → Nat) (Ls : List Nat) (hW : SW K ln Ls) (sz : Nat) (hp0 : Nat → Nat → Value) (ok0 : Ok K hp0) (qa900 : Nat) (qa901 : Nat) (kd900 : K qa900 = 8) (kd901 : K qa901 = 8) : Met l yX7_copyMoment (WS yX7_copyMoment cX7_copyMoment 2 none) { frames := 0, cells := 0, slots := 0, locals := 0 } (PB2 [.ref qa900, .ref qa901] sz G cy ev (va_pl Ls (cellOf cy K ln hp0))) (QBv (S := (Nat → Nat → Value)) (fun u : (Nat → Nat → Value) => Ok K u ∧ Fr [8000, 8001, 8002, 8003, 8004, 8005] K hp0 u) G (fun u => va_pl Ls (cellOf cy K ln u)) (va_A (va_pl Ls (cellOf cy K ln hp0)) sz)) 0 0 (va_A (va_pl Ls (cellOf cy K ln hp0)) sz) := by
  refine met_of2 (y := yX7_copyMoment) (L := 2) (av := [.ref qa900, .ref qa901]) (Qc := fun A => QBv (S := (Nat → Nat → Value)) (fun u : (Nat → Nat → Value) => Ok K u ∧ Fr [8000, 8001, 8002, 8003, 8004, 8005] K hp0 u) G (fun u => va_pl Ls (cellOf cy K ln u)) A) (plainFor_of_name (by decide)) (Nat.le_of_ble_eq_true rfl) ?_
  intro p e s m below meth c hsz hx hb hr hml hown hT hlocks hin hK A hA hE hw hS ls hl
  have hw : PW G cy K ln Ls A hp0 s.heap := hw
  have hown : s.vm.findClass "LieClock$State" = some m.cls := hown
  have hl : lv_has ls 2 [(0, .ref qa900), (1, .ref qa901)] := hl
  obtain ⟨Q, hQ⟩ : ∃ Q : State → Prop, Q = MQ below (QBv (S := (Nat → Nat → Value)) (fun u : (Nat → Nat → Value) => Ok K u ∧ Fr [8000, 8001, 8002, 8003, 8004, 8005] K hp0 u) G (fun u => va_pl Ls (cellOf cy K ln u)) A) ([.ref qa900, .ref qa901] : List Value).toArray s 0 0 A := ⟨_, rfl⟩
  rw [← hQ]
  refine lv_aload_n hx hb dX7_copyMoment_0 rfl (lv_at hl 0 rfl) ?_
  refine lv_aload_n hx hb dX7_copyMoment_1 rfl (lv_at hl 1 rfl) ?_
  obtain ⟨zi2, eq1⟩ := rd_8000 ok0 kd901
  refine p_get (ci := 7) (v := .int zi2) (C := RX7) (T := TX7) (N := 13) hx hb hT iw_X7 hown hK hw hW kd901 (by decide) rfl rfl 0 (by decide) eq1 (hT _ tb_411) (fun _ h9 => h9) dX7_copyMoment_2 ?_
  refine p_put (ci := 7) (v := .int zi2) (ty := .int) (C := RX7) (T := TX7) (N := 13) hx hb hT iw_X7 tyX7 tyX7_ok nmX7 hown hK hw hS hW kd900 (by decide) rfl rfl 0 (by decide) (hT _ tb_411) (fun _ h9 => h9) rfl (by decide +kernel) rfl rfl dX7_copyMoment_5 (fun hp3 eh4 H locs hw hS => ?_)
  have ok5 := wr_8000 ok0 kd900 eh4
  refine lv_aload_n hx hb dX7_copyMoment_8 rfl (lv_at hl 0 rfl) ?_
  refine lv_aload_n hx hb dX7_copyMoment_9 rfl (lv_at hl 1 rfl) ?_
  obtain ⟨zi7, eq6⟩ := rd_8001 ok5 kd901
  refine p_get (ci := 7) (v := .int zi7) (C := RX7) (T := TX7) (N := 13) hx hb hT iw_X7 hown hK hw hW kd901 (by decide) rfl rfl 1 (by decide) eq6 (hT _ tb_416) (fun _ h9 => h9) dX7_copyMoment_10 ?_
  refine p_put (ci := 7) (v := .int zi7) (ty := .int) (C := RX7) (T := TX7) (N := 13) hx hb hT iw_X7 tyX7 tyX7_ok nmX7 hown hK hw hS hW kd900 (by decide) rfl rfl 1 (by decide) (hT _ tb_416) (fun _ h9 => h9) rfl (by decide +kernel) rfl rfl dX7_copyMoment_13 (fun hp8 eh9 H locs hw hS => ?_)
  have ok10 := wr_8001 ok5 kd900 eh9
  refine lv_aload_n hx hb dX7_copyMoment_16 rfl (lv_at hl 0 rfl) ?_
  refine lv_aload_n hx hb dX7_copyMoment_17 rfl (lv_at hl 1 rfl) ?_
  obtain ⟨zi12, eq11⟩ := rd_8002 ok10 kd901
  refine p_get (ci := 7) (v := .int zi12) (C := RX7) (T := TX7) (N := 13) hx hb hT iw_X7 hown hK hw hW kd901 (by decide) rfl rfl 2 (by decide) eq11 (hT _ tb_420) (fun _ h9 => h9) dX7_copyMoment_18 ?_
  refine p_put (ci := 7) (v := .int zi12) (ty := .int) (C := RX7) (T := TX7) (N := 13) hx hb hT iw_X7 tyX7 tyX7_ok nmX7 hown hK hw hS hW kd900 (by decide) rfl rfl 2 (by decide) (hT _ tb_420) (fun _ h9 => h9) rfl (by decide +kernel) rfl rfl dX7_copyMoment_21 (fun hp13 eh14 H locs hw hS => ?_)
  have ok15 := wr_8002 ok10 kd900 eh14
  refine lv_aload_n hx hb dX7_copyMoment_24 rfl (lv_at hl 0 rfl) ?_
  refine lv_aload_n hx hb dX7_copyMoment_25 rfl (lv_at hl 1 rfl) ?_
  obtain ⟨zi17, eq16⟩ := rd_8003 ok15 kd901
  refine p_get (ci := 7) (v := .int zi17) (C := RX7) (T := TX7) (N := 13) hx hb hT iw_X7 hown hK hw hW kd901 (by decide) rfl rfl 3 (by decide) eq16 (hT _ tb_424) (fun _ h9 => h9) dX7_copyMoment_26 ?_
  refine p_put (ci := 7) (v := .int zi17) (ty := .int) (C := RX7) (T := TX7) (N := 13) hx hb hT iw_X7 tyX7 tyX7_ok nmX7 hown hK hw hS hW kd900 (by decide) rfl rfl 3 (by decide) (hT _ tb_424) (fun _ h9 => h9) rfl (by decide +kernel) rfl rfl dX7_copyMoment_29 (fun hp18 eh19 H locs hw hS => ?_)
  have ok20 := wr_8003 ok15 kd900 eh19
  refine lv_aload_n hx hb dX7_copyMoment_32 rfl (lv_at hl 0 rfl) ?_
  refine lv_aload_n hx hb dX7_copyMoment_33 rfl (lv_at hl 1 rfl) ?_
  obtain ⟨zi22, eq21⟩ := rd_8004 ok20 kd901
  refine p_get (ci := 7) (v := .int zi22) (C := RX7) (T := TX7) (N := 13) hx hb hT iw_X7 hown hK hw hW kd901 (by decide) rfl rfl 4 (by decide) eq21 (hT _ tb_426) (fun _ h9 => h9) dX7_copyMoment_34 ?_
  refine p_put (ci := 7) (v := .int zi22) (ty := .int) (C := RX7) (T := TX7) (N := 13) hx hb hT iw_X7 tyX7 tyX7_ok nmX7 hown hK hw hS hW kd900 (by decide) rfl rfl 4 (by decide) (hT _ tb_426) (fun _ h9 => h9) rfl (by decide +kernel) rfl rfl dX7_copyMoment_37 (fun hp23 eh24 H locs hw hS => ?_)
  have ok25 := wr_8004 ok20 kd900 eh24
  refine lv_aload_n hx hb dX7_copyMoment_40 rfl (lv_at hl 0 rfl) ?_
  refine lv_aload_n hx hb dX7_copyMoment_41 rfl (lv_at hl 1 rfl) ?_
  obtain ⟨wl27, eq26⟩ := rd_8005 ok25 kd901
  refine p_get (ci := 7) (v := .long wl27) (C := RX7) (T := TX7) (N := 13) hx hb hT iw_X7 hown hK hw hW kd901 (by decide) rfl rfl 5 (by decide) eq26 (hT _ tb_429) (fun _ h9 => h9) dX7_copyMoment_42 ?_
  refine p_put (ci := 7) (v := .long wl27) (ty := .long) (C := RX7) (T := TX7) (N := 13) hx hb hT iw_X7 tyX7 tyX7_ok nmX7 hown hK hw hS hW kd900 (by decide) rfl rfl 5 (by decide) (hT _ tb_429) (fun _ h9 => h9) rfl (by decide +kernel) rfl rfl dX7_copyMoment_45 (fun hp28 eh29 H locs hw hS => ?_)
  have ok30 := wr_8005 ok25 kd900 eh29
  rw [hQ]
  exact kz_v hx hb hr hlocks hS hp28 hw ⟨ok30, (Fr.put (cq := 8005) (Fr.put (cq := 8004) (Fr.put (cq := 8003) (Fr.put (cq := 8002) (Fr.put (cq := 8001) (Fr.put (cq := 8000) (Fr.rf) eh4 kd900 (cd_o (by decide)) (by decide)) eh9 kd900 (cd_o (by decide)) (by decide)) eh14 kd900 (cd_o (by decide)) (by decide)) eh19 kd900 (cd_o (by decide)) (by decide)) eh24 kd900 (cd_o (by decide)) (by decide)) eh29 kd900 (cd_o (by decide)) (by decide))⟩ (Nat.le_of_ble_eq_true rfl) (Nat.le_of_ble_eq_true rfl) dX7_copyMoment_48

set_option maxRecDepth 100000 in
set_option maxHeartbeats 4000000 in
theorem cX7_copyFrom_0 (l : Launch) (G : va_G) (cy : Nat → ClassId) (ev : Ew) (K ln : Nat → Nat) (Ls : List Nat) (hW : SW K ln Ls) (sz : Nat) (hp0 : Nat → Nat → Value) (ok0 : Ok K hp0) (qa900 : Nat) (qa901 : Nat) (kd900 : K qa900 = 8) (kd901 : K qa901 = 8) : Met l yX7_copyFrom (WS yX7_copyFrom cX7_copyFrom 2 none) { frames := 1, cells := 0, slots := 0, locals := 40 } (PB2 [.ref qa900, .ref qa901] sz G cy ev (va_pl Ls (cellOf cy K ln hp0))) (QBv (S := (Nat → Nat → Value)) (fun u : (Nat → Nat → Value) => Ok K u ∧ Fr [8000, 8001, 8002, 8003, 8004, 8005, 40000, 41000, 42000] K hp0 u) G (fun u => va_pl Ls (cellOf cy K ln u)) (va_A (va_pl Ls (cellOf cy K ln hp0)) sz)) 0 0 (va_A (va_pl Ls (cellOf cy K ln hp0)) sz) := by
  refine met_of2 (y := yX7_copyFrom) (L := 2) (av := [.ref qa900, .ref qa901]) (Qc := fun A => QBv (S := (Nat → Nat → Value)) (fun u : (Nat → Nat → Value) => Ok K u ∧ Fr [8000, 8001, 8002, 8003, 8004, 8005, 40000, 41000, 42000] K hp0 u) G (fun u => va_pl Ls (cellOf cy K ln u)) A) (plainFor_of_name (by decide)) (Nat.le_of_ble_eq_true rfl) ?_
  intro p e s m below meth c hsz hx hb hr hml hown hT hlocks hin hK A hA hE hw hS ls hl
  have hw : PW G cy K ln Ls A hp0 s.heap := hw
  have hown : s.vm.findClass "LieClock$State" = some m.cls := hown
  have hl : lv_has ls 2 [(0, .ref qa900), (1, .ref qa901)] := hl
  obtain ⟨Q, hQ⟩ : ∃ Q : State → Prop, Q = MQ below (QBv (S := (Nat → Nat → Value)) (fun u : (Nat → Nat → Value) => Ok K u ∧ Fr [8000, 8001, 8002, 8003, 8004, 8005, 40000, 41000, 42000] K hp0 u) G (fun u => va_pl Ls (cellOf cy K ln u)) A) ([.ref qa900, .ref qa901] : List Value).toArray s 0 0 A := ⟨_, rfl⟩
  rw [← hQ]
  refine lv_aload_n hx hb dX7_copyFrom_0 rfl (lv_at hl 0 rfl) ?_
  refine lv_aload_n hx hb dX7_copyFrom_1 rfl (lv_at hl 1 rfl) ?_
  refine kq_v hw hS hA (va_runV (As := [.ref qa901]) (rest := []) ⟨hx, hb, hml, hown, hT⟩ (cX7_copyMoment_0 l G cy ev K ln Ls hW _ hp0 ok0 qa900 qa901 kd900 kd901) (cwV 1 hT (good_V tb_1051 tb_1048 tb_1049 tb_1050 tb_115) rfl rfl rfl (by decide +kernel) ⟨Nat.le_of_ble_eq_true rfl, Nat.le_of_ble_eq_true rfl⟩) (pool_preV (ci := 7) hK hE hS hA hw hW kd900 (by decide) rfl) rfl rfl hl.1 rfl (lv_room (Nat.le_of_ble_eq_true rfl)) dX7_copyFrom_2 ⟨Nat.le_of_ble_eq_true rfl, Nat.le_of_ble_eq_true rfl⟩) (fun hp1 H locs hq4 hw hS => ?_)
  obtain ⟨ok2, F3⟩ := hq4
  have hw : PW G cy K ln Ls A hp1 H := hw
  refine lv_aload_n hx hb dX7_copyFrom_5 rfl (lv_at hl 1 rfl) ?_
  obtain ⟨qa7, eq6, kd8⟩ := rd_8010 ok2 kd901
  refine p_get (ci := 7) (v := .ref qa7) (C := RX7) (T := TX7) (N := 13) hx hb hT iw_X7 hown hK hw hW kd901 (by decide) rfl rfl 10 (by decide) eq6 (hT _ tb_438) (fun _ h9 => h9) dX7_copyFrom_6 ?_
  refine lv_iconst (v := 0) hx hb dX7_copyFrom_9 (by decide) ?_
  refine lv_aload_n hx hb dX7_copyFrom_10 rfl (lv_at hl 0 rfl) ?_
  obtain ⟨qa10, eq9, kd11⟩ := rd_8010 ok2 kd900
  refine p_get (ci := 7) (v := .ref qa10) (C := RX7) (T := TX7) (N := 13) hx hb hT iw_X7 hown hK hw hW kd900 (by decide) rfl rfl 10 (by decide) eq9 (hT _ tb_438) (fun _ h9 => h9) dX7_copyFrom_11 ?_
  refine lv_iconst (v := 0) hx hb dX7_copyFrom_14 (by decide) ?_
  refine lv_bipush (v := 8) hx hb dX7_copyFrom_15 (by decide) ?_
  refine p_copy1 (k0 := 40) (k1 := 40) (cq := 40000) hx hb (hml.trans hl.1.symm) hown (hT _ tb_1052) (hT _ tb_1054) (hT _ tb_1053) (hT _ tb_127) hK hw hS hW ok2 kd8 kd11 (by decide) (by decide) rfl rfl (hW.len kd8 (n := 8) rfl (by decide)) (hW.len kd11 (n := 8) rfl (by decide)) (fun _ h9 => h9) bc_0 bc_0 bc_8 (by decide) (by decide) (by decide) (by decide) (by decide) (Nat.le_of_ble_eq_true rfl) (Nat.le_of_ble_eq_true rfl) dX7_copyFrom_17 rfl (fun hp12 ok14 F13 H locs hw hS => ?_)
  refine lv_aload_n hx hb dX7_copyFrom_20 rfl (lv_at hl 1 rfl) ?_
  obtain ⟨qa16, eq15, kd17⟩ := rd_8011 ok14 kd901
  refine p_get (ci := 7) (v := .ref qa16) (C := RX7) (T := TX7) (N := 13) hx hb hT iw_X7 hown hK hw hW kd901 (by decide) rfl rfl 11 (by decide) eq15 (hT _ tb_440) (fun _ h9 => h9) dX7_copyFrom_21 ?_
  refine lv_iconst (v := 0) hx hb dX7_copyFrom_24 (by decide) ?_
  refine lv_aload_n hx hb dX7_copyFrom_25 rfl (lv_at hl 0 rfl) ?_
  obtain ⟨qa19, eq18, kd20⟩ := rd_8011 ok14 kd900
  refine p_get (ci := 7) (v := .ref qa19) (C := RX7) (T := TX7) (N := 13) hx hb hT iw_X7 hown hK hw hW kd900 (by decide) rfl rfl 11 (by decide) eq18 (hT _ tb_440) (fun _ h9 => h9) dX7_copyFrom_26 ?_
  refine lv_iconst (v := 0) hx hb dX7_copyFrom_29 (by decide) ?_
  refine lv_bipush (v := 8) hx hb dX7_copyFrom_30 (by decide) ?_
  refine p_copy1 (k0 := 41) (k1 := 41) (cq := 41000) hx hb (hml.trans hl.1.symm) hown (hT _ tb_1052) (hT _ tb_1054) (hT _ tb_1053) (hT _ tb_127) hK hw hS hW ok14 kd17 kd20 (by decide) (by decide) rfl rfl (hW.len kd17 (n := 8) rfl (by decide)) (hW.len kd20 (n := 8) rfl (by decide)) (fun _ h9 => h9) bc_0 bc_0 bc_8 (by decide) (by decide) (by decide) (by decide) (by decide) (Nat.le_of_ble_eq_true rfl) (Nat.le_of_ble_eq_true rfl) dX7_copyFrom_32 rfl (fun hp21 ok23 F22 H locs hw hS => ?_)
  refine lv_aload_n hx hb dX7_copyFrom_35 rfl (lv_at hl 1 rfl) ?_
  obtain ⟨qa25, eq24, kd26⟩ := rd_8012 ok23 kd901
  refine p_get (ci := 7) (v := .ref qa25) (C := RX7) (T := TX7) (N := 13) hx hb hT iw_X7 hown hK hw hW kd901 (by decide) rfl rfl 12 (by decide) eq24 (hT _ tb_442) (fun _ h9 => h9) dX7_copyFrom_36 ?_
  refine lv_iconst (v := 0) hx hb dX7_copyFrom_39 (by decide) ?_
  refine lv_aload_n hx hb dX7_copyFrom_40 rfl (lv_at hl 0 rfl) ?_
  obtain ⟨qa28, eq27, kd29⟩ := rd_8012 ok23 kd900
  refine p_get (ci := 7) (v := .ref qa28) (C := RX7) (T := TX7) (N := 13) hx hb hT iw_X7 hown hK hw hW kd900 (by decide) rfl rfl 12 (by decide) eq27 (hT _ tb_442) (fun _ h9 => h9) dX7_copyFrom_41 ?_
  refine lv_iconst (v := 0) hx hb dX7_copyFrom_44 (by decide) ?_
  refine lv_bipush (v := 6) hx hb dX7_copyFrom_45 (by decide) ?_
  refine p_copy1 (k0 := 42) (k1 := 42) (cq := 42000) hx hb (hml.trans hl.1.symm) hown (hT _ tb_1052) (hT _ tb_1054) (hT _ tb_1053) (hT _ tb_127) hK hw hS hW ok23 kd26 kd29 (by decide) (by decide) rfl rfl (hW.len kd26 (n := 6) rfl (by decide)) (hW.len kd29 (n := 6) rfl (by decide)) (fun _ h9 => h9) bc_0 bc_0 bc_6 (by decide) (by decide) (by decide) (by decide) (by decide) (Nat.le_of_ble_eq_true rfl) (Nat.le_of_ble_eq_true rfl) dX7_copyFrom_47 rfl (fun hp30 ok32 F31 H locs hw hS => ?_)
  rw [hQ]
  exact kz_v hx hb hr hlocks hS hp30 hw ⟨ok32, (Fr.tr (Fr.tr (Fr.tr (Fr.tr (Fr.rf) F3 (by decide)) F13 (by decide)) F22 (by decide)) F31 (by decide))⟩ (Nat.le_of_ble_eq_true rfl) (Nat.le_of_ble_eq_true rfl) dX7_copyFrom_50

set_option maxRecDepth 100000 in
set_option maxHeartbeats 4000000 in
theorem cX7_verdictOf_0 (l : Launch) (G : va_G) (cy : Nat → ClassId) (ev : Ew) (K ln : Nat → Nat) (Ls : List Nat) (hW : SW K ln Ls) (sz : Nat) (hp0 : Nat → Nat → Value) (ok0 : Ok K hp0) (qa900 : Nat) (qa901 : Nat) (zi902 : Int32) (kd900 : K qa900 = 8) (kd901 : K qa901 = 11) (bd902 : ((0 : Int) ≤ zi902.toInt ∧ zi902.toInt ≤ 7)) : Met l yX7_verdictOf (WS yX7_verdictOf cX7_verdictOf 7 (some .int)) { frames := 1, cells := 0, slots := 0, locals := 24 } (PB2 [.ref qa900, .ref qa901, .int zi902] sz G cy ev (va_pl Ls (cellOf cy K ln hp0))) (QBi (S := (Nat → Nat → Value)) (fun (r : Int32) (u : (Nat → Nat → Value)) => Ok K u ∧ Fr [] K hp0 u ∧ ((0 : Int) ≤ r.toInt ∧ r.toInt ≤ 3)) G (fun u => va_pl Ls (cellOf cy K ln u)) (va_A (va_pl Ls (cellOf cy K ln hp0)) sz)) 0 0 (va_A (va_pl Ls (cellOf cy K ln hp0)) sz) := by
  refine met_of2 (y := yX7_verdictOf) (L := 7) (av := [.ref qa900, .ref qa901, .int zi902]) (Qc := fun A => QBi (S := (Nat → Nat → Value)) (fun (r : Int32) (u : (Nat → Nat → Value)) => Ok K u ∧ Fr [] K hp0 u ∧ ((0 : Int) ≤ r.toInt ∧ r.toInt ≤ 3)) G (fun u => va_pl Ls (cellOf cy K ln u)) A) (plainFor_of_name (by decide)) (Nat.le_of_ble_eq_true rfl) ?_
  intro p e s m below meth c hsz hx hb hr hml hown hT hlocks hin hK A hA hE hw hS ls hl
  have hw : PW G cy K ln Ls A hp0 s.heap := hw
  have hown : s.vm.findClass "LieClock$State" = some m.cls := hown
  have hl : lv_has ls 7 [(0, .ref qa900), (1, .ref qa901), (2, .int zi902)] := hl
  obtain ⟨Q, hQ⟩ : ∃ Q : State → Prop, Q = MQ below (QBi (S := (Nat → Nat → Value)) (fun (r : Int32) (u : (Nat → Nat → Value)) => Ok K u ∧ Fr [] K hp0 u ∧ ((0 : Int) ≤ r.toInt ∧ r.toInt ≤ 3)) G (fun u => va_pl Ls (cellOf cy K ln u)) A) ([.ref qa900, .ref qa901, .int zi902] : List Value).toArray s 0 0 A := ⟨_, rfl⟩
  rw [← hQ]
  refine lv_aload_n hx hb dX7_verdictOf_0 rfl (lv_at hl 0 rfl) ?_
  obtain ⟨wl2, eq1⟩ := rd_8005 ok0 kd900
  refine p_get (ci := 7) (v := .long wl2) (C := RX7) (T := TX7) (N := 13) hx hb hT iw_X7 hown hK hw hW kd900 (by decide) rfl rfl 5 (by decide) eq1 (hT _ tb_429) (fun _ h9 => h9) dX7_verdictOf_1 ?_
  refine lv_aload_n hx hb dX7_verdictOf_4 rfl (lv_at hl 1 rfl) ?_
  refine lv_aload_n hx hb dX7_verdictOf_5 rfl (lv_at hl 0 rfl) ?_
  obtain ⟨zi4, eq3⟩ := rd_8001 ok0 kd900
  refine p_get (ci := 7) (v := .int zi4) (C := RX7) (T := TX7) (N := 13) hx hb hT iw_X7 hown hK hw hW kd900 (by decide) rfl rfl 1 (by decide) eq3 (hT _ tb_416) (fun _ h9 => h9) dX7_verdictOf_6 ?_
  refine lv_aload_n hx hb dX7_verdictOf_9 rfl (lv_at hl 0 rfl) ?_
  obtain ⟨zi6, eq5⟩ := rd_8002 ok0 kd900
  refine p_get (ci := 7) (v := .int zi6) (C := RX7) (T := TX7) (N := 13) hx hb hT iw_X7 hown hK hw hW kd900 (by decide) rfl rfl 2 (by decide) eq5 (hT _ tb_420) (fun _ h9 => h9) dX7_verdictOf_10 ?_
  refine lv_iconst (v := (-1)) hx hb dX7_verdictOf_13 (by decide) ?_
  refine lv_ixor hx hb dX7_verdictOf_14 (lv_topi (fun zi7 ea8 => ?_))
  refine lv_iand hx hb dX7_verdictOf_15 (lv_topi (fun zi9 ea10 => ?_))
  refine kq_l hw hS hA (va_runV (As := [.int zi9]) (rest := [.long wl2]) ⟨hx, hb, hml, hown, hT⟩ (cX10_together_0 l G cy ev K ln Ls hW _ hp0 ok0 qa901 zi9 kd901) (cwV 1 hT (good_V tb_1017 tb_1035 tb_1015 tb_1016 tb_107) rfl rfl rfl (by decide +kernel) ⟨Nat.le_of_ble_eq_true rfl, Nat.le_of_ble_eq_true rfl⟩) (pool_preV (ci := 10) hK hE hS hA hw hW kd901 (by decide) rfl) rfl rfl hl.1 rfl (lv_room (Nat.le_of_ble_eq_true rfl)) dX7_verdictOf_16 ⟨Nat.le_of_ble_eq_true rfl, Nat.le_of_ble_eq_true rfl⟩) (fun wl15 hp11 H locs hq14 hw hS => ?_)
  obtain ⟨ok12, F13⟩ := hq14
  obtain rfl : hp0 = hp11 := (Fr.nil F13).symm
  have hw : PW G cy K ln Ls A hp0 H := hw
  refine lv_land hx hb dX7_verdictOf_19 (lv_topl (fun wl16 _ => ?_))
  refine lv_lstore_n (lv' := [(3, .long wl16), (0, .ref qa900), (1, .ref qa901), (2, .int zi902)]) hx hb dX7_verdictOf_20 rfl hl (by decide) rfl (fun ls hl => ?_)
  refine lv_lload_n hx hb dX7_verdictOf_21 rfl (lv_at hl 0 rfl) ?_
  refine lv_lconst (v := 0) hx hb dX7_verdictOf_22 (by decide) ?_
  refine W.lcmp hx hb dX7_verdictOf_23 (lv_topi (fun zi17 ea18 => ?_))
  refine lv_if_ne (tgt := 29) hx hb dX7_verdictOf_24 (by decide) (fun cn19 => ?_) (fun cn19 => ?_)
  · skip
    refine lv_lload_n hx hb dX7_verdictOf_29 rfl (lv_at hl 0 rfl) ?_
    refine lv_aload_n hx hb dX7_verdictOf_30 rfl (lv_at hl 2 rfl) ?_
    obtain ⟨qa21, eq20, kd22⟩ := rd_11017 ok0 kd901
    refine p_getN (ci := 10) (v := .ref qa21) (C := RX10) (T := TX10) (N := 20) hx hb hT iw_X10 hown hK hw hW kd901 (by decide) rfl rfl 17 (by decide) eq20 (hK.fl nw_135) (fun _ h9 => h9) dX7_verdictOf_31 ?_
    refine lv_iload_n hx hb dX7_verdictOf_34 rfl (lv_at hl 3 rfl) ?_
    obtain ⟨wl24, eq23⟩ := rd_55000 ok0 kd22 ((zi902 : Int32).toNatClampNeg)
    refine p_lald (v := wl24) hx hb hK hw hW kd22 (by decide) rfl (hW.len kd22 (n := 8) rfl (by decide)) (vp_b bd902 (by decide) (by decide)) eq23 dX7_verdictOf_35 ?_
    refine lv_land hx hb dX7_verdictOf_36 (lv_topl (fun wl25 _ => ?_))
    refine lv_lstore (lv' := [(5, .long wl25), (3, .long wl16), (0, .ref qa900), (1, .ref qa901), (2, .int zi902)]) hx hb dX7_verdictOf_37 hl (by decide) rfl (fun ls hl => ?_)
    refine lv_lload hx hb dX7_verdictOf_39 (lv_at hl 0 rfl) ?_
    refine lv_lload_n hx hb dX7_verdictOf_41 rfl (lv_at hl 1 rfl) ?_
    refine W.lcmp hx hb dX7_verdictOf_42 (lv_topi (fun zi26 ea27 => ?_))
    refine lv_if_ne (tgt := 48) hx hb dX7_verdictOf_43 (by decide) (fun cn28 => ?_) (fun cn28 => ?_)
    · skip
      refine lv_lload hx hb dX7_verdictOf_48 (lv_at hl 0 rfl) ?_
      refine lv_lconst (v := 0) hx hb dX7_verdictOf_50 (by decide) ?_
      refine W.lcmp hx hb dX7_verdictOf_51 (lv_topi (fun zi29 ea30 => ?_))
      refine lv_if_ne (tgt := 59) hx hb dX7_verdictOf_52 (by decide) (fun cn31 => ?_) (fun cn31 => ?_)
      · skip
        refine lv_iconst (v := 2) hx hb dX7_verdictOf_59 (by decide) ?_
        rw [hQ]
        exact kz_i hx hb hr hlocks hS rfl hp0 hw ⟨ok0, (Fr.rf), (b_wid2 bc_2 (by decide) (by decide))⟩ (Nat.le_of_ble_eq_true rfl) (Nat.le_of_ble_eq_true rfl) dX7_verdictOf_60
      · skip
        have bd32 : (0 : Int) ≤ zi29.toInt ∧ zi29.toInt ≤ 0 := r_eq_x cn31 (b_all zi29) bc_0 (by decide) (by decide)
        refine lv_iconst (v := 0) hx hb dX7_verdictOf_55 (by decide) ?_
        refine lv_goto (tgt := 60) hx hb dX7_verdictOf_56 (by decide) ?_
        rw [hQ]
        exact kz_i hx hb hr hlocks hS rfl hp0 hw ⟨ok0, (Fr.rf), (b_wid2 bc_0 (by decide) (by decide))⟩ (Nat.le_of_ble_eq_true rfl) (Nat.le_of_ble_eq_true rfl) dX7_verdictOf_60
    · skip
      have bd33 : (0 : Int) ≤ zi26.toInt ∧ zi26.toInt ≤ 0 := r_eq_x cn28 (b_all zi26) bc_0 (by decide) (by decide)
      refine lv_iconst (v := 1) hx hb dX7_verdictOf_46 (by decide) ?_
      rw [hQ]
      exact kz_i hx hb hr hlocks hS rfl hp0 hw ⟨ok0, (Fr.rf), (b_wid2 bc_1 (by decide) (by decide))⟩ (Nat.le_of_ble_eq_true rfl) (Nat.le_of_ble_eq_true rfl) dX7_verdictOf_47
  · skip
    have bd34 : (0 : Int) ≤ zi17.toInt ∧ zi17.toInt ≤ 0 := r_eq_x cn19 (b_all zi17) bc_0 (by decide) (by decide)
    refine lv_iconst (v := 3) hx hb dX7_verdictOf_27 (by decide) ?_
    rw [hQ]
    exact kz_i hx hb hr hlocks hS rfl hp0 hw ⟨ok0, (Fr.rf), (b_wid2 bc_3 (by decide) (by decide))⟩ (Nat.le_of_ble_eq_true rfl) (Nat.le_of_ble_eq_true rfl) dX7_verdictOf_28

set_option maxRecDepth 100000 in
set_option maxHeartbeats 4000000 in
theorem cX7_hear_0 (l : Launch) (G : va_G) (cy : Nat → ClassId) (ev : Ew) (K ln : Nat → Nat) (Ls : List Nat) (hW : SW K ln Ls) (sz : Nat) (hp0 : Nat → Nat → Value) (ok0 : Ok K hp0) (qa900 : Nat) (qa901 : Nat) (zi902 : Int32) (kd900 : K qa900 = 8) (kd901 : K qa901 = 11) (bd902 : ((0 : Int) ≤ zi902.toInt ∧ zi902.toInt ≤ 7)) : Met l yX7_hear (WS yX7_hear cX7_hear 3 none) { frames := 2, cells := 0, slots := 0, locals := 50 } (PB2 [.ref qa900, .ref qa901, .int zi902] sz G cy ev (va_pl Ls (cellOf cy K ln hp0))) (QBv (S := (Nat → Nat → Value)) (fun u : (Nat → Nat → Value) => Ok K u ∧ Fr [8004, 8006, 40000, 41000] K hp0 u) G (fun u => va_pl Ls (cellOf cy K ln u)) (va_A (va_pl Ls (cellOf cy K ln hp0)) sz)) 0 0 (va_A (va_pl Ls (cellOf cy K ln hp0)) sz) := by
  refine met_of2 (y := yX7_hear) (L := 3) (av := [.ref qa900, .ref qa901, .int zi902]) (Qc := fun A => QBv (S := (Nat → Nat → Value)) (fun u : (Nat → Nat → Value) => Ok K u ∧ Fr [8004, 8006, 40000, 41000] K hp0 u) G (fun u => va_pl Ls (cellOf cy K ln u)) A) (plainFor_of_name (by decide)) (Nat.le_of_ble_eq_true rfl) ?_
  intro p e s m below meth c hsz hx hb hr hml hown hT hlocks hin hK A hA hE hw hS ls hl
  have hw : PW G cy K ln Ls A hp0 s.heap := hw
  have hown : s.vm.findClass "LieClock$State" = some m.cls := hown
  have hl : lv_has ls 3 [(0, .ref qa900), (1, .ref qa901), (2, .int zi902)] := hl
  obtain ⟨Q, hQ⟩ : ∃ Q : State → Prop, Q = MQ below (QBv (S := (Nat → Nat → Value)) (fun u : (Nat → Nat → Value) => Ok K u ∧ Fr [8004, 8006, 40000, 41000] K hp0 u) G (fun u => va_pl Ls (cellOf cy K ln u)) A) ([.ref qa900, .ref qa901, .int zi902] : List Value).toArray s 0 0 A := ⟨_, rfl⟩
  rw [← hQ]
  refine lv_aload_n hx hb dX7_hear_0 rfl (lv_at hl 0 rfl) ?_
  refine lv_dup hx hb dX7_hear_1 rfl ?_
  obtain ⟨zi2, eq1⟩ := rd_8004 ok0 kd900
  refine p_get (ci := 7) (v := .int zi2) (C := RX7) (T := TX7) (N := 13) hx hb hT iw_X7 hown hK hw hW kd900 (by decide) rfl rfl 4 (by decide) eq1 (hT _ tb_426) (fun _ h9 => h9) dX7_hear_2 ?_
  refine lv_iconst (v := 1) hx hb dX7_hear_5 (by decide) ?_
  refine lv_iadd hx hb dX7_hear_6 (lv_topi (fun zi3 ea4 => ?_))
  refine p_put (ci := 7) (v := .int zi3) (ty := .int) (C := RX7) (T := TX7) (N := 13) hx hb hT iw_X7 tyX7 tyX7_ok nmX7 hown hK hw hS hW kd900 (by decide) rfl rfl 4 (by decide) (hT _ tb_426) (fun _ h9 => h9) rfl (by decide +kernel) rfl rfl dX7_hear_7 (fun hp5 eh6 H locs hw hS => ?_)
  have ok7 := wr_8004 ok0 kd900 eh6
  refine lv_aload_n hx hb dX7_hear_10 rfl (lv_at hl 0 rfl) ?_
  refine lv_dup hx hb dX7_hear_11 rfl ?_
  obtain ⟨zi9, eq8⟩ := rd_8006 ok7 kd900
  refine p_get (ci := 7) (v := .int zi9) (C := RX7) (T := TX7) (N := 13) hx hb hT iw_X7 hown hK hw hW kd900 (by decide) rfl rfl 6 (by decide) eq8 (hT _ tb_432) (fun _ h9 => h9) dX7_hear_12 ?_
  refine lv_iconst (v := 1) hx hb dX7_hear_15 (by decide) ?_
  refine lv_iload_n hx hb dX7_hear_16 rfl (lv_at hl 2 rfl) ?_
  refine lv_ishl hx hb dX7_hear_17 (lv_topi (fun zi10 ea11 => ?_))
  have bd12 : (1 : Int) ≤ zi10.toInt ∧ zi10.toInt ≤ 128 := b_shl1 7 ea11 bd902 (by decide) (by decide) (by decide) (by decide) (by decide)
  refine lv_ior hx hb dX7_hear_18 (lv_topi (fun zi13 ea14 => ?_))
  refine p_put (ci := 7) (v := .int zi13) (ty := .int) (C := RX7) (T := TX7) (N := 13) hx hb hT iw_X7 tyX7 tyX7_ok nmX7 hown hK hw hS hW kd900 (by decide) rfl rfl 6 (by decide) (hT _ tb_432) (fun _ h9 => h9) rfl (by decide +kernel) rfl rfl dX7_hear_19 (fun hp15 eh16 H locs hw hS => ?_)
  have ok17 := wr_8006 ok7 kd900 eh16
  refine lv_aload_n hx hb dX7_hear_22 rfl (lv_at hl 0 rfl) ?_
  obtain ⟨zi19, eq18, bd20⟩ := rd_8009 ok17 kd900
  refine p_get (ci := 7) (v := .int zi19) (C := RX7) (T := TX7) (N := 13) hx hb hT iw_X7 hown hK hw hW kd900 (by decide) rfl rfl 9 (by decide) eq18 (hT _ tb_437) (fun _ h9 => h9) dX7_hear_23 ?_
  refine lv_if_eq (tgt := 51) hx hb dX7_hear_26 (by decide) (fun cn21 => ?_) (fun cn21 => ?_)
  · skip
    have bd22 : (0 : Int) ≤ zi19.toInt ∧ zi19.toInt ≤ 0 := r_eq_x cn21 bd20 bc_0 (by decide) (by decide)
    rw [hQ]
    exact kz_v hx hb hr hlocks hS hp15 hw ⟨ok17, (Fr.put (cq := 8006) (Fr.put (cq := 8004) (Fr.rf) eh6 kd900 (cd_o (by decide)) (by decide)) eh16 kd900 (cd_o (by decide)) (by decide))⟩ (Nat.le_of_ble_eq_true rfl) (Nat.le_of_ble_eq_true rfl) dX7_hear_51
  · skip
    have bd23 : (1 : Int) ≤ zi19.toInt ∧ zi19.toInt ≤ 1 := r_ne_lo cn21 bd20 (toi bc_0) (by decide) (by decide)
    refine lv_aload_n hx hb dX7_hear_29 rfl (lv_at hl 0 rfl) ?_
    obtain ⟨qa25, eq24, kd26⟩ := rd_8010 ok17 kd900
    refine p_get (ci := 7) (v := .ref qa25) (C := RX7) (T := TX7) (N := 13) hx hb hT iw_X7 hown hK hw hW kd900 (by decide) rfl rfl 10 (by decide) eq24 (hT _ tb_438) (fun _ h9 => h9) dX7_hear_30 ?_
    refine lv_iload_n hx hb dX7_hear_33 rfl (lv_at hl 2 rfl) ?_
    refine lv_dup2_11 hx hb dX7_hear_34 rfl rfl ?_
    obtain ⟨zi28, eq27⟩ := rd_40000 ok17 kd26 ((zi902 : Int32).toNatClampNeg)
    refine p_iald (v := zi28) hx hb hK hw hW kd26 (by decide) rfl (hW.len kd26 (n := 8) rfl (by decide)) (vp_b bd902 (by decide) (by decide)) eq27 dX7_hear_35 ?_
    refine lv_iconst (v := 1) hx hb dX7_hear_36 (by decide) ?_
    refine lv_iadd hx hb dX7_hear_37 (lv_topi (fun zi29 ea30 => ?_))
    refine p_iast (x := zi29) hx hb hK hw hS hW kd26 (by decide) rfl (hW.len kd26 (n := 8) rfl (by decide)) (vp_b bd902 (by decide) (by decide)) dX7_hear_38 (fun hp31 eh32 H locs hw hS => ?_)
    have ok33 := wr_40000 ok17 kd26 eh32
    refine lv_aload_n hx hb dX7_hear_39 rfl (lv_at hl 0 rfl) ?_
    obtain ⟨qa35, eq34, kd36⟩ := rd_8011 ok33 kd900
    refine p_get (ci := 7) (v := .ref qa35) (C := RX7) (T := TX7) (N := 13) hx hb hT iw_X7 hown hK hw hW kd900 (by decide) rfl rfl 11 (by decide) eq34 (hT _ tb_440) (fun _ h9 => h9) dX7_hear_40 ?_
    refine lv_iload_n hx hb dX7_hear_43 rfl (lv_at hl 2 rfl) ?_
    refine lv_aload_n hx hb dX7_hear_44 rfl (lv_at hl 0 rfl) ?_
    refine lv_aload_n hx hb dX7_hear_45 rfl (lv_at hl 1 rfl) ?_
    refine lv_iload_n hx hb dX7_hear_46 rfl (lv_at hl 2 rfl) ?_
    refine kq_i hw hS hA (va_runV (As := [.ref qa901, .int zi902]) (rest := [.int zi902, .ref qa35]) ⟨hx, hb, hml, hown, hT⟩ (cX7_verdictOf_0 l G cy ev K ln Ls hW _ hp31 ok33 qa900 qa901 zi902 kd900 kd901 (b_wid2 bd902 (by decide) (by decide))) (cwV 2 hT (good_V tb_1034 tb_1070 tb_1032 tb_1033 tb_115) rfl rfl rfl (by decide +kernel) ⟨Nat.le_of_ble_eq_true rfl, Nat.le_of_ble_eq_true rfl⟩) (pool_preV (ci := 7) hK hE hS hA hw hW kd900 (by decide) rfl) rfl rfl hl.1 rfl (lv_room (Nat.le_of_ble_eq_true rfl)) dX7_hear_47 ⟨Nat.le_of_ble_eq_true rfl, Nat.le_of_ble_eq_true rfl⟩) (fun zi41 hp37 H locs hq40 hw hS => ?_)
    obtain ⟨ok38, F39, bd42⟩ := hq40
    obtain rfl : hp31 = hp37 := (Fr.nil F39).symm
    have hw : PW G cy K ln Ls A hp31 H := hw
    refine p_iast (x := zi41) hx hb hK hw hS hW kd36 (by decide) rfl (hW.len kd36 (n := 8) rfl (by decide)) (vp_b bd902 (by decide) (by decide)) dX7_hear_50 (fun hp43 eh44 H locs hw hS => ?_)
    have ok45 := wr_41000 ok33 kd36 eh44
    rw [hQ]
    exact kz_v hx hb hr hlocks hS hp43 hw ⟨ok45, (Fr.put (cq := 41000) (Fr.put (cq := 40000) (Fr.put (cq := 8006) (Fr.put (cq := 8004) (Fr.rf) eh6 kd900 (cd_o (by decide)) (by decide)) eh16 kd900 (cd_o (by decide)) (by decide)) eh32 kd26 (cd_a (by decide)) (by decide)) eh44 kd36 (cd_a (by decide)) (by decide))⟩ (Nat.le_of_ble_eq_true rfl) (Nat.le_of_ble_eq_true rfl) dX7_hear_51

set_option maxRecDepth 100000 in
set_option maxHeartbeats 4000000 in
theorem cX7_goForward_0 (l : Launch) (G : va_G) (cy : Nat → ClassId) (ev : Ew) (K ln : Nat → Nat) (Ls : List Nat) (hW : SW K ln Ls) (sz : Nat) (hp0 : Nat → Nat → Value) (ok0 : Ok K hp0) (qa900 : Nat) (qa901 : Nat) (zi902 : Int32) (kd900 : K qa900 = 8) (kd901 : K qa901 = 11) : Met l yX7_goForward (WS yX7_goForward cX7_goForward 6 none) { frames := 3, cells := 0, slots := 0, locals := 72 } (PB2 [.ref qa900, .ref qa901, .int zi902] sz G cy ev (va_pl Ls (cellOf cy K ln hp0))) (QBv (S := (Nat → Nat → Value)) (fun u : (Nat → Nat → Value) => Ok K u ∧ Fr [8000, 8004, 8006, 8008, 40000, 41000] K hp0 u) G (fun u => va_pl Ls (cellOf cy K ln u)) (va_A (va_pl Ls (cellOf cy K ln hp0)) sz)) 0 0 (va_A (va_pl Ls (cellOf cy K ln hp0)) sz) := by
  refine met_of2 (y := yX7_goForward) (L := 6) (av := [.ref qa900, .ref qa901, .int zi902]) (Qc := fun A => QBv (S := (Nat → Nat → Value)) (fun u : (Nat → Nat → Value) => Ok K u ∧ Fr [8000, 8004, 8006, 8008, 40000, 41000] K hp0 u) G (fun u => va_pl Ls (cellOf cy K ln u)) A) (plainFor_of_name (by decide)) (Nat.le_of_ble_eq_true rfl) ?_
  intro p e s m below meth c hsz hx hb hr hml hown hT hlocks hin hK A hA hE hw hS ls hl
  have hw : PW G cy K ln Ls A hp0 s.heap := hw
  have hown : s.vm.findClass "LieClock$State" = some m.cls := hown
  have hl : lv_has ls 6 [(0, .ref qa900), (1, .ref qa901), (2, .int zi902)] := hl
  obtain ⟨Q, hQ⟩ : ∃ Q : State → Prop, Q = MQ below (QBv (S := (Nat → Nat → Value)) (fun u : (Nat → Nat → Value) => Ok K u ∧ Fr [8000, 8004, 8006, 8008, 40000, 41000] K hp0 u) G (fun u => va_pl Ls (cellOf cy K ln u)) A) ([.ref qa900, .ref qa901, .int zi902] : List Value).toArray s 0 0 A := ⟨_, rfl⟩
  rw [← hQ]
  refine lv_aload_n hx hb dX7_goForward_0 rfl (lv_at hl 0 rfl) ?_
  obtain ⟨zi2, eq1⟩ := rd_8000 ok0 kd900
  refine p_get (ci := 7) (v := .int zi2) (C := RX7) (T := TX7) (N := 13) hx hb hT iw_X7 hown hK hw hW kd900 (by decide) rfl rfl 0 (by decide) eq1 (hT _ tb_411) (fun _ h9 => h9) dX7_goForward_1 ?_
  refine lv_istore_n (lv' := [(3, .int zi2), (0, .ref qa900), (1, .ref qa901), (2, .int zi902)]) hx hb dX7_goForward_4 rfl hl (by decide) rfl (fun ls hl => ?_)
  refine lv_iload_n hx hb dX7_goForward_5 rfl (lv_at hl 0 rfl) ?_
  refine lv_iload_n hx hb dX7_goForward_6 rfl (lv_at hl 3 rfl) ?_
  refine lv_iadd hx hb dX7_goForward_7 (lv_topi (fun zi3 ea4 => ?_))
  refine lv_ldc (v := 100000) hx hb hown (hT _ tb_1064) dX7_goForward_8 ?_
  refine va_mmin hx hb (hml.trans hl.1.symm) hown (hT _ tb_1065) (hT _ tb_791) (hT _ tb_123) (hT _ tb_792) (Nat.le_of_ble_eq_true rfl) (Nat.le_of_ble_eq_true rfl) (Nat.le_of_ble_eq_true rfl) (Nat.le_of_ble_eq_true rfl) dX7_goForward_10 (lv_topi (fun zi5 ea6 => ?_))
  have bd7 : (-2147483648 : Int) ≤ zi5.toInt ∧ zi5.toInt ≤ 100000 := b_min ea6 (b_all zi3) bc_100000 (by decide) (by decide) (by decide)
  refine lv_istore (lv' := [(4, .int zi5), (3, .int zi2), (0, .ref qa900), (1, .ref qa901), (2, .int zi902)]) hx hb dX7_goForward_13 hl (by decide) rfl (fun ls hl => ?_)
  refine lv_iconst (v := 0) hx hb dX7_goForward_15 (by decide) ?_
  refine lv_istore (lv' := [(5, .int 0), (4, .int zi5), (3, .int zi2), (0, .ref qa900), (1, .ref qa901), (2, .int zi902)]) hx hb dX7_goForward_16 hl (by decide) rfl (fun ls hl => ?_)
  have lp317 : ∀ (n315 : Nat) (hp229 : Nat → Nat → Value) (zi228 : Int32) (H : Heap) (locs : List Loc) (ls : Array Slot), 8 - zi228.toInt < (n315 : Int) → Ok K hp229 → Fr [8004, 8006, 40000, 41000] K hp0 hp229 → ((0 : Int) ≤ zi228.toInt ∧ zi228.toInt ≤ 8) → lv_has ls 6 [(0, .ref qa900), (1, .ref qa901), (3, .int zi2), (4, .int zi5), (5, .int zi228)] → PW G cy K ln Ls A hp229 H → va_S A s.heap H locs → W p l e ({ frames := 3, cells := 0, slots := 0, locals := 72 } : Room) s m ([.ref qa900, .ref qa901, .int zi902] : List Value).toArray below meth c H locs 0 0 Q (F0 m 18 ls []) := by
    intro n315
    induction n315 with
    | zero =>
      intro hp229 zi228 H locs ls hm318 ok231 F230 bd232 hl hw hS
      exact absurd hm318 (by have := bd232; omega)
    | succ n315 ih316 =>
      intro hp229 zi228 H locs ls hm318 ok231 F230 bd232 hl hw hS
      refine lv_iload hx hb dX7_goForward_18 (lv_at hl 4 rfl) ?_
      refine lv_aload_n hx hb dX7_goForward_20 rfl (lv_at hl 1 rfl) ?_
      obtain ⟨zi320, eq319, bd321⟩ := rd_11007 ok231 kd901
      refine p_getN (ci := 10) (v := .int zi320) (C := RX10) (T := TX10) (N := 20) hx hb hT iw_X10 hown hK hw hW kd901 (by decide) rfl rfl 7 (by decide) eq319 (hK.fl nw_109) (fun _ h9 => h9) dX7_goForward_21 ?_
      refine lv_icmp_ge (tgt := 63) hx hb dX7_goForward_24 (by decide) (fun cn322 => ?_) (fun cn322 => ?_)
      · skip
        refine lv_aload_n hx hb dX7_goForward_63 rfl (lv_at hl 0 rfl) ?_
        refine lv_dup hx hb dX7_goForward_64 rfl ?_
        obtain ⟨zi361, eq360, bd362⟩ := rd_8008 ok231 kd900
        refine p_get (ci := 7) (v := .int zi361) (C := RX7) (T := TX7) (N := 13) hx hb hT iw_X7 hown hK hw hW kd900 (by decide) rfl rfl 8 (by decide) eq360 (hT _ tb_436) (fun _ h9 => h9) dX7_goForward_65 ?_
        refine lv_aload_n hx hb dX7_goForward_68 rfl (lv_at hl 0 rfl) ?_
        obtain ⟨zi364, eq363⟩ := rd_8007 ok231 kd900
        refine p_get (ci := 7) (v := .int zi364) (C := RX7) (T := TX7) (N := 13) hx hb hT iw_X7 hown hK hw hW kd900 (by decide) rfl rfl 7 (by decide) eq363 (hT _ tb_434) (fun _ h9 => h9) dX7_goForward_69 ?_
        refine lv_iload_n hx hb dX7_goForward_72 rfl (lv_at hl 2 rfl) ?_
        have jn373 : ∀ (zi371 : Int32) (H : Heap) (locs : List Loc) (ls : Array Slot), ((0 : Int) ≤ zi371.toInt ∧ zi371.toInt ≤ 1) → lv_has ls 6 [(0, .ref qa900), (4, .int zi5)] → PW G cy K ln Ls A hp229 H → va_S A s.heap H locs → W p l e ({ frames := 3, cells := 0, slots := 0, locals := 72 } : Room) s m ([.ref qa900, .ref qa901, .int zi902] : List Value).toArray below meth c H locs 0 0 Q (F0 m 90 ls [.int zi371, .int zi361, .ref qa900]) := by
          intro zi371 H locs ls bd372 hl hw hS
          refine lv_ior hx hb dX7_goForward_90 (lv_topi (fun zi374 ea375 => ?_))
          have bd376 : (0 : Int) ≤ zi374.toInt ∧ zi374.toInt ≤ 1 := b_or01 ea375 bd362 bd372 (by decide) (by decide) (by decide) (by decide)
          refine p_put (ci := 7) (v := .int zi374) (ty := .boolean) (C := RX7) (T := TX7) (N := 13) hx hb hT iw_X7 tyX7 tyX7_ok nmX7 hown hK hw hS hW kd900 (by decide) rfl rfl 8 (by decide) (hT _ tb_436) (fun _ h9 => h9) rfl (by decide +kernel) (nz_n bd376 (by decide) (by decide)) (nz_f bd376 (by decide) (by decide)) dX7_goForward_91 (fun hp377 eh378 H locs hw hS => ?_)
          have ok379 := wr_8008 bd376 (by decide) (by decide) ok231 kd900 eh378
          refine lv_aload_n hx hb dX7_goForward_94 rfl (lv_at hl 0 rfl) ?_
          refine lv_iload hx hb dX7_goForward_95 (lv_at hl 1 rfl) ?_
          refine p_put (ci := 7) (v := .int zi5) (ty := .int) (C := RX7) (T := TX7) (N := 13) hx hb hT iw_X7 tyX7 tyX7_ok nmX7 hown hK hw hS hW kd900 (by decide) rfl rfl 0 (by decide) (hT _ tb_411) (fun _ h9 => h9) rfl (by decide +kernel) rfl rfl dX7_goForward_97 (fun hp380 eh381 H locs hw hS => ?_)
          have ok382 := wr_8000 ok379 kd900 eh381
          rw [hQ]
          exact kz_v hx hb hr hlocks hS hp380 hw ⟨ok382, (Fr.put (cq := 8000) (Fr.put (cq := 8008) (Fr.tr (Fr.rf) F230 (by decide)) eh378 kd900 (cd_o (by decide)) (by decide)) eh381 kd900 (cd_o (by decide)) (by decide))⟩ (Nat.le_of_ble_eq_true rfl) (Nat.le_of_ble_eq_true rfl) dX7_goForward_100
        refine lv_icmp_le (tgt := 89) hx hb dX7_goForward_73 (by decide) (fun cn365 => ?_) (fun cn365 => ?_)
        · skip
          refine lv_iconst (v := 0) hx hb dX7_goForward_89 (by decide) ?_
          exact jn373 0 _ _ ls (b_wid2 bc_0 (by decide) (by decide)) (lv_sub hl [0, 3] rfl) hw hS
        · skip
          have bd383 : (-2147483648 : Int) ≤ zi2.toInt ∧ zi2.toInt ≤ 2147483646 := r_lt_x (Int32.not_le.mp cn365) (b_all zi2) (b_all zi364) (by decide) (by decide)
          have bd384 : (-2147483647 : Int) ≤ zi364.toInt ∧ zi364.toInt ≤ 2147483647 := r_lt_y (Int32.not_le.mp cn365) (b_all zi2) (b_all zi364) (by decide) (by decide)
          refine lv_aload_n hx hb dX7_goForward_76 rfl (lv_at hl 0 rfl) ?_
          refine p_get (ci := 7) (v := .int zi364) (C := RX7) (T := TX7) (N := 13) hx hb hT iw_X7 hown hK hw hW kd900 (by decide) rfl rfl 7 (by decide) eq363 (hT _ tb_434) (fun _ h9 => h9) dX7_goForward_77 ?_
          refine lv_iload hx hb dX7_goForward_80 (lv_at hl 3 rfl) ?_
          refine lv_icmp_gt (tgt := 89) hx hb dX7_goForward_82 (by decide) (fun cn385 => ?_) (fun cn385 => ?_)
          · skip
            refine lv_iconst (v := 0) hx hb dX7_goForward_89 (by decide) ?_
            exact jn373 0 _ _ ls (b_wid2 bc_0 (by decide) (by decide)) (lv_sub hl [0, 3] rfl) hw hS
          · skip
            have bd386 : (-2147483647 : Int) ≤ zi364.toInt ∧ zi364.toInt ≤ 100000 := r_le_x (Int32.not_lt.mp cn385) bd384 bd7 (by decide) (by decide)
            have bd387 : (-2147483647 : Int) ≤ zi5.toInt ∧ zi5.toInt ≤ 100000 := r_le_y (Int32.not_lt.mp cn385) bd384 bd7 (by decide) (by decide)
            refine lv_iconst (v := 1) hx hb dX7_goForward_85 (by decide) ?_
            refine lv_goto (tgt := 90) hx hb dX7_goForward_86 (by decide) ?_
            exact jn373 1 _ _ ls (b_wid2 bc_1 (by decide) (by decide)) (lv_sub hl [0, 3] rfl) hw hS
      · skip
        have bd388 : (0 : Int) ≤ zi228.toInt ∧ zi228.toInt ≤ 7 := r_lt_x (Int32.not_le.mp cn322) bd232 bd321 (by decide) (by decide)
        have bd389 : (1 : Int) ≤ zi320.toInt ∧ zi320.toInt ≤ 8 := r_lt_y (Int32.not_le.mp cn322) bd232 bd321 (by decide) (by decide)
        refine lv_aload_n hx hb dX7_goForward_27 rfl (lv_at hl 1 rfl) ?_
        obtain ⟨qa391, eq390, kd392⟩ := rd_11016 ok231 kd901
        refine p_getN (ci := 10) (v := .ref qa391) (C := RX10) (T := TX10) (N := 20) hx hb hT iw_X10 hown hK hw hW kd901 (by decide) rfl rfl 16 (by decide) eq390 (hK.fl nw_132) (fun _ h9 => h9) dX7_goForward_28 ?_
        refine lv_iload hx hb dX7_goForward_31 (lv_at hl 4 rfl) ?_
        obtain ⟨zi394, eq393⟩ := rd_54000 ok231 kd392 ((zi228 : Int32).toNatClampNeg)
        refine p_iald (v := zi394) hx hb hK hw hW kd392 (by decide) rfl (hW.len kd392 (n := 8) rfl (by decide)) (vp_b bd388 (by decide) (by decide)) eq393 dX7_goForward_33 ?_
        refine lv_iload_n hx hb dX7_goForward_34 rfl (lv_at hl 2 rfl) ?_
        have jn409 : ∀ (hp406 : Nat → Nat → Value)  (H : Heap) (locs : List Loc) (ls : Array Slot), Ok K hp406 → Fr [8004, 8006, 40000, 41000] K hp229 hp406 → lv_has ls 6 [(0, .ref qa900), (1, .ref qa901), (3, .int zi2), (4, .int zi5), (5, .int zi228)] → PW G cy K ln Ls A hp406 H → va_S A s.heap H locs → W p l e ({ frames := 3, cells := 0, slots := 0, locals := 72 } : Room) s m ([.ref qa900, .ref qa901, .int zi902] : List Value).toArray below meth c H locs 0 0 Q (F0 m 57 ls []) := by
          intro hp406 H locs ls ok408 F407 hl hw hS
          obtain ⟨zi410, ea411⟩ : ∃ z : Int32, z = zi228 + 1 := ⟨_, rfl⟩
          have bd412 : (1 : Int) ≤ zi410.toInt ∧ zi410.toInt ≤ 8 := b_iadd ea411 bd388 bc_1 (by decide) (by decide) (by decide) (by decide)
          have qe413 : zi410.toInt = (zi228 : Int32).toInt + (1 : Int32).toInt := e_iadd ea411 bd388 bc_1 (by decide) (by decide)
          have qe414 : zi410.toInt = zi228.toInt + 1 := by have ha : (1 : Int32).toInt = 1 := (by decide); rw [ha] at qe413; exact qe413
          refine lv_iinc (v := zi410) (lv' := [(5, .int zi410), (0, .ref qa900), (1, .ref qa901), (3, .int zi2), (4, .int zi5)]) hx hb dX7_goForward_57 hl (k := 4) rfl ea411.symm (by decide) rfl (fun ls hl => ?_)
          refine lv_goto (tgt := 18) hx hb dX7_goForward_60 (by decide) ?_
          exact ih316 hp406 zi410 _ _ ls (by have := hm318; have := qe414; omega) ok408 (Fr.tr (Fr.tr (Fr.rf) F230 (by decide)) F407 (by decide)) (b_wid2 bd412 (by decide) (by decide)) (lv_sub hl [1, 2, 3, 4, 0] rfl) hw hS
        refine lv_icmp_le (tgt := 57) hx hb dX7_goForward_35 (by decide) (fun cn395 => ?_) (fun cn395 => ?_)
        · skip
          exact jn409 hp229 _ _ ls ok231 (Fr.rf) (lv_sub hl [0, 1, 2, 3, 4] rfl) hw hS
        · skip
          have bd415 : (-2147483648 : Int) ≤ zi2.toInt ∧ zi2.toInt ≤ 2147483646 := r_lt_x (Int32.not_le.mp cn395) (b_all zi2) (b_all zi394) (by decide) (by decide)
          have bd416 : (-2147483647 : Int) ≤ zi394.toInt ∧ zi394.toInt ≤ 2147483647 := r_lt_y (Int32.not_le.mp cn395) (b_all zi2) (b_all zi394) (by decide) (by decide)
          refine lv_aload_n hx hb dX7_goForward_38 rfl (lv_at hl 1 rfl) ?_
          refine p_getN (ci := 10) (v := .ref qa391) (C := RX10) (T := TX10) (N := 20) hx hb hT iw_X10 hown hK hw hW kd901 (by decide) rfl rfl 16 (by decide) eq390 (hK.fl nw_132) (fun _ h9 => h9) dX7_goForward_39 ?_
          refine lv_iload hx hb dX7_goForward_42 (lv_at hl 4 rfl) ?_
          refine p_iald (v := zi394) hx hb hK hw hW kd392 (by decide) rfl (hW.len kd392 (n := 8) rfl (by decide)) (vp_b bd388 (by decide) (by decide)) eq393 dX7_goForward_44 ?_
          refine lv_iload hx hb dX7_goForward_45 (lv_at hl 3 rfl) ?_
          refine lv_icmp_gt (tgt := 57) hx hb dX7_goForward_47 (by decide) (fun cn417 => ?_) (fun cn417 => ?_)
          · skip
            exact jn409 hp229 _ _ ls ok231 (Fr.rf) (lv_sub hl [0, 1, 2, 3, 4] rfl) hw hS
          · skip
            have bd418 : (-2147483647 : Int) ≤ zi394.toInt ∧ zi394.toInt ≤ 100000 := r_le_x (Int32.not_lt.mp cn417) bd416 bd7 (by decide) (by decide)
            have bd419 : (-2147483647 : Int) ≤ zi5.toInt ∧ zi5.toInt ≤ 100000 := r_le_y (Int32.not_lt.mp cn417) bd416 bd7 (by decide) (by decide)
            refine lv_aload_n hx hb dX7_goForward_50 rfl (lv_at hl 0 rfl) ?_
            refine lv_aload_n hx hb dX7_goForward_51 rfl (lv_at hl 1 rfl) ?_
            refine lv_iload hx hb dX7_goForward_52 (lv_at hl 4 rfl) ?_
            refine kq_v hw hS hA (va_runV (As := [.ref qa901, .int zi228]) (rest := []) ⟨hx, hb, hml, hown, hT⟩ (cX7_hear_0 l G cy ev K ln Ls hW _ hp229 ok231 qa900 qa901 zi228 kd900 kd901 (b_wid2 bd388 (by decide) (by decide))) (cwV 2 hT (good_V tb_1069 tb_1066 tb_1068 tb_28 tb_115) rfl rfl rfl (by decide +kernel) ⟨Nat.le_of_ble_eq_true rfl, Nat.le_of_ble_eq_true rfl⟩) (pool_preV (ci := 7) hK hE hS hA hw hW kd900 (by decide) rfl) rfl rfl hl.1 rfl (lv_room (Nat.le_of_ble_eq_true rfl)) dX7_goForward_54 ⟨Nat.le_of_ble_eq_true rfl, Nat.le_of_ble_eq_true rfl⟩) (fun hp420 H locs hq423 hw hS => ?_)
            obtain ⟨ok421, F422⟩ := hq423
            have hw : PW G cy K ln Ls A hp420 H := hw
            exact jn409 hp420 _ _ ls ok421 (Fr.tr (Fr.rf) F422 (by decide)) (lv_sub hl [0, 1, 2, 3, 4] rfl) hw hS
  exact lp317 _ hp0 0 _ _ ls (lp_in _) ok0 (Fr.rf) (b_wid2 bc_0 (by decide) (by decide)) (lv_sub hl [3, 4, 2, 1, 0] rfl) hw hS

set_option maxRecDepth 100000 in
set_option maxHeartbeats 4000000 in
theorem cX7_examine_0 (l : Launch) (G : va_G) (cy : Nat → ClassId) (ev : Ew) (K ln : Nat → Nat) (Ls : List Nat) (hW : SW K ln Ls) (sz : Nat) (hp0 : Nat → Nat → Value) (ok0 : Ok K hp0) (qa900 : Nat) (qa901 : Nat) (zi902 : Int32) (kd900 : K qa900 = 8) (kd901 : K qa901 = 11) (bd902 : ((0 : Int) ≤ zi902.toInt ∧ zi902.toInt ≤ 5)) : Met l yX7_examine (WS yX7_examine cX7_examine 8 (some .int)) { frames := 3, cells := 0, slots := 0, locals := 68 } (PB2 [.ref qa900, .ref qa901, .int zi902] sz G cy ev (va_pl Ls (cellOf cy K ln hp0))) (QBi (S := (Nat → Nat → Value)) (fun (r : Int32) (u : (Nat → Nat → Value)) => Ok K u ∧ Fr [3003, 3004, 8000, 8002, 27000, 42000] K hp0 u ∧ ((0 : Int) ≤ r.toInt ∧ r.toInt ≤ 63)) G (fun u => va_pl Ls (cellOf cy K ln u)) (va_A (va_pl Ls (cellOf cy K ln hp0)) sz)) 0 0 (va_A (va_pl Ls (cellOf cy K ln hp0)) sz) := by
  refine met_of2 (y := yX7_examine) (L := 8) (av := [.ref qa900, .ref qa901, .int zi902]) (Qc := fun A => QBi (S := (Nat → Nat → Value)) (fun (r : Int32) (u : (Nat → Nat → Value)) => Ok K u ∧ Fr [3003, 3004, 8000, 8002, 27000, 42000] K hp0 u ∧ ((0 : Int) ≤ r.toInt ∧ r.toInt ≤ 63)) G (fun u => va_pl Ls (cellOf cy K ln u)) A) (plainFor_of_name (by decide)) (Nat.le_of_ble_eq_true rfl) ?_
  intro p e s m below meth c hsz hx hb hr hml hown hT hlocks hin hK A hA hE hw hS ls hl
  have hw : PW G cy K ln Ls A hp0 s.heap := hw
  have hown : s.vm.findClass "LieClock$State" = some m.cls := hown
  have hl : lv_has ls 8 [(0, .ref qa900), (1, .ref qa901), (2, .int zi902)] := hl
  obtain ⟨Q, hQ⟩ : ∃ Q : State → Prop, Q = MQ below (QBi (S := (Nat → Nat → Value)) (fun (r : Int32) (u : (Nat → Nat → Value)) => Ok K u ∧ Fr [3003, 3004, 8000, 8002, 27000, 42000] K hp0 u ∧ ((0 : Int) ≤ r.toInt ∧ r.toInt ≤ 63)) G (fun u => va_pl Ls (cellOf cy K ln u)) A) ([.ref qa900, .ref qa901, .int zi902] : List Value).toArray s 0 0 A := ⟨_, rfl⟩
  rw [← hQ]
  refine lv_aload_n hx hb dX7_examine_0 rfl (lv_at hl 1 rfl) ?_
  obtain ⟨qa2, eq1, kd3⟩ := rd_11012 ok0 kd901
  refine p_getN (ci := 10) (v := .ref qa2) (C := RX10) (T := TX10) (N := 20) hx hb hT iw_X10 hown hK hw hW kd901 (by decide) rfl rfl 12 (by decide) eq1 (hK.fl nw_121) (fun _ h9 => h9) dX7_examine_1 ?_
  refine lv_iload_n hx hb dX7_examine_4 rfl (lv_at hl 2 rfl) ?_
  obtain ⟨zi5, eq4⟩ := rd_50000 ok0 kd3 ((zi902 : Int32).toNatClampNeg)
  refine p_iald (v := zi5) hx hb hK hw hW kd3 (by decide) rfl (hW.len kd3 (n := 6) rfl (by decide)) (vp_b bd902 (by decide) (by decide)) eq4 dX7_examine_5 ?_
  refine lv_istore_n (lv' := [(3, .int zi5), (0, .ref qa900), (1, .ref qa901), (2, .int zi902)]) hx hb dX7_examine_6 rfl hl (by decide) rfl (fun ls hl => ?_)
  refine lv_iload_n hx hb dX7_examine_7 rfl (lv_at hl 0 rfl) ?_
  refine lv_aload_n hx hb dX7_examine_8 rfl (lv_at hl 1 rfl) ?_
  obtain ⟨zi7, eq6⟩ := rd_8001 ok0 kd900
  refine p_get (ci := 7) (v := .int zi7) (C := RX7) (T := TX7) (N := 13) hx hb hT iw_X7 hown hK hw hW kd900 (by decide) rfl rfl 1 (by decide) eq6 (hT _ tb_416) (fun _ h9 => h9) dX7_examine_9 ?_
  refine lv_iand hx hb dX7_examine_12 (lv_topi (fun zi8 ea9 => ?_))
  refine lv_aload_n hx hb dX7_examine_13 rfl (lv_at hl 1 rfl) ?_
  obtain ⟨zi11, eq10⟩ := rd_8002 ok0 kd900
  refine p_get (ci := 7) (v := .int zi11) (C := RX7) (T := TX7) (N := 13) hx hb hT iw_X7 hown hK hw hW kd900 (by decide) rfl rfl 2 (by decide) eq10 (hT _ tb_420) (fun _ h9 => h9) dX7_examine_14 ?_
  refine lv_iconst (v := (-1)) hx hb dX7_examine_17 (by decide) ?_
  refine lv_ixor hx hb dX7_examine_18 (lv_topi (fun zi12 ea13 => ?_))
  refine lv_iand hx hb dX7_examine_19 (lv_topi (fun zi14 ea15 => ?_))
  refine lv_istore (lv' := [(4, .int zi14), (3, .int zi5), (0, .ref qa900), (1, .ref qa901), (2, .int zi902)]) hx hb dX7_examine_20 hl (by decide) rfl (fun ls hl => ?_)
  refine lv_iload hx hb dX7_examine_22 (lv_at hl 0 rfl) ?_
  refine lv_aload_n hx hb dX7_examine_24 rfl (lv_at hl 3 rfl) ?_
  obtain ⟨zi17, eq16⟩ := rd_11006 ok0 kd901
  refine p_getN (ci := 10) (v := .int zi17) (C := RX10) (T := TX10) (N := 20) hx hb hT iw_X10 hown hK hw hW kd901 (by decide) rfl rfl 6 (by decide) eq16 (hK.fl nw_106) (fun _ h9 => h9) dX7_examine_25 ?_
  refine lv_iconst (v := (-1)) hx hb dX7_examine_28 (by decide) ?_
  refine lv_ixor hx hb dX7_examine_29 (lv_topi (fun zi18 ea19 => ?_))
  refine lv_iand hx hb dX7_examine_30 (lv_topi (fun zi20 ea21 => ?_))
  refine lv_istore (lv' := [(5, .int zi20), (4, .int zi14), (3, .int zi5), (0, .ref qa900), (1, .ref qa901), (2, .int zi902)]) hx hb dX7_examine_31 hl (by decide) rfl (fun ls hl => ?_)
  refine lv_iload hx hb dX7_examine_33 (lv_at hl 0 rfl) ?_
  refine lv_if_eq (tgt := 54) hx hb dX7_examine_35 (by decide) (fun cn22 => ?_) (fun cn22 => ?_)
  · skip
    have bd23 : (0 : Int) ≤ zi20.toInt ∧ zi20.toInt ≤ 0 := r_eq_x cn22 (b_all zi20) bc_0 (by decide) (by decide)
    refine lv_iconst (v := 0) hx hb dX7_examine_54 (by decide) ?_
    rw [hQ]
    exact kz_i hx hb hr hlocks hS rfl hp0 hw ⟨ok0, (Fr.rf), (b_wid2 bc_0 (by decide) (by decide))⟩ (Nat.le_of_ble_eq_true rfl) (Nat.le_of_ble_eq_true rfl) dX7_examine_55
  · skip
    refine lv_aload_n hx hb dX7_examine_38 rfl (lv_at hl 3 rfl) ?_
    obtain ⟨wl25, eq24⟩ := rd_8005 ok0 kd900
    refine p_get (ci := 7) (v := .long wl25) (C := RX7) (T := TX7) (N := 13) hx hb hT iw_X7 hown hK hw hW kd900 (by decide) rfl rfl 5 (by decide) eq24 (hT _ tb_429) (fun _ h9 => h9) dX7_examine_39 ?_
    refine lv_aload_n hx hb dX7_examine_42 rfl (lv_at hl 4 rfl) ?_
    refine lv_iload hx hb dX7_examine_43 (lv_at hl 1 rfl) ?_
    refine kq_l hw hS hA (va_runV (As := [.int zi14]) (rest := [.long wl25]) ⟨hx, hb, hml, hown, hT⟩ (cX10_together_0 l G cy ev K ln Ls hW _ hp0 ok0 qa901 zi14 kd901) (cwV 1 hT (good_V tb_1017 tb_1035 tb_1015 tb_1016 tb_107) rfl rfl rfl (by decide +kernel) ⟨Nat.le_of_ble_eq_true rfl, Nat.le_of_ble_eq_true rfl⟩) (pool_preV (ci := 10) hK hE hS hA hw hW kd901 (by decide) rfl) rfl rfl hl.1 rfl (lv_room (Nat.le_of_ble_eq_true rfl)) dX7_examine_45 ⟨Nat.le_of_ble_eq_true rfl, Nat.le_of_ble_eq_true rfl⟩) (fun wl30 hp26 H locs hq29 hw hS => ?_)
    obtain ⟨ok27, F28⟩ := hq29
    obtain rfl : hp0 = hp26 := (Fr.nil F28).symm
    have hw : PW G cy K ln Ls A hp0 H := hw
    refine lv_land hx hb dX7_examine_48 (lv_topl (fun wl31 _ => ?_))
    refine lv_lconst (v := 0) hx hb dX7_examine_49 (by decide) ?_
    refine W.lcmp hx hb dX7_examine_50 (lv_topi (fun zi32 ea33 => ?_))
    refine lv_if_eq (tgt := 56) hx hb dX7_examine_51 (by decide) (fun cn34 => ?_) (fun cn34 => ?_)
    · skip
      have bd35 : (0 : Int) ≤ zi32.toInt ∧ zi32.toInt ≤ 0 := r_eq_x cn34 (b_all zi32) bc_0 (by decide) (by decide)
      refine lv_iconst (v := 0) hx hb dX7_examine_56 (by decide) ?_
      refine lv_istore (lv' := [(6, .int 0), (5, .int zi20), (4, .int zi14), (3, .int zi5), (0, .ref qa900), (1, .ref qa901), (2, .int zi902)]) hx hb dX7_examine_57 hl (by decide) rfl (fun ls hl => ?_)
      have lp771 : ∀ (n769 : Nat) (hp559 : Nat → Nat → Value) (zi558 : Int32) (H : Heap) (locs : List Loc) (ls : Array Slot), 16 - zi558.toInt < (n769 : Int) → Ok K hp559 → Fr [3003, 3004, 8000, 8002, 27000, 42000] K hp0 hp559 → ((0 : Int) ≤ zi558.toInt ∧ zi558.toInt ≤ 16) → lv_has ls 8 [(0, .ref qa900), (1, .ref qa901), (2, .int zi902), (3, .int zi5), (5, .int zi20), (6, .int zi558)] → PW G cy K ln Ls A hp559 H → va_S A s.heap H locs → W p l e ({ frames := 3, cells := 0, slots := 0, locals := 68 } : Room) s m ([.ref qa900, .ref qa901, .int zi902] : List Value).toArray below meth c H locs 0 0 Q (F0 m 59 ls []) := by
        intro n769
        induction n769 with
        | zero =>
          intro hp559 zi558 H locs ls hm772 ok561 F560 bd562 hl hw hS
          exact absurd hm772 (by have := bd562; omega)
        | succ n769 ih770 =>
          intro hp559 zi558 H locs ls hm772 ok561 F560 bd562 hl hw hS
          refine lv_iload hx hb dX7_examine_59 (lv_at hl 5 rfl) ?_
          refine lv_aload_n hx hb dX7_examine_61 rfl (lv_at hl 1 rfl) ?_
          obtain ⟨zi774, eq773, bd775⟩ := rd_11004 ok561 kd901
          refine p_getN (ci := 10) (v := .int zi774) (C := RX10) (T := TX10) (N := 20) hx hb hT iw_X10 hown hK hw hW kd901 (by decide) rfl rfl 4 (by decide) eq773 (hK.fl nw_98) (fun _ h9 => h9) dX7_examine_62 ?_
          refine lv_icmp_ge (tgt := 135) hx hb dX7_examine_65 (by decide) (fun cn776 => ?_) (fun cn776 => ?_)
          · skip
            refine lv_iload hx hb dX7_examine_135 (lv_at hl 4 rfl) ?_
            refine kq_i hw hS hA (va_runS (As := [.int zi20]) (rest := []) ⟨hx, hb, hml, hown, hT⟩ (cJ6_bitCount_0f7a4_0 l G cy ev K ln Ls hW _ hp559 ok561 zi20) (va_cwS 1 hT (good_S tb_1010 tb_1087 tb_1009 tb_126) rfl rfl rfl (by decide +kernel) ⟨Nat.le_of_ble_eq_true rfl, Nat.le_of_ble_eq_true rfl⟩) (PB2.preS hK hE hS hA hw) rfl rfl hl.1 rfl (lv_room (Nat.le_of_ble_eq_true rfl)) dX7_examine_137 ⟨Nat.le_of_ble_eq_true rfl, Nat.le_of_ble_eq_true rfl⟩) (fun zi880 hp876 H locs hq879 hw hS => ?_)
            obtain ⟨ok877, F878, bd881, ef882⟩ := hq879
            obtain rfl : hp559 = hp876 := (Fr.nil F878).symm
            have hw : PW G cy K ln Ls A hp559 H := hw
            rw [hQ]
            exact kz_i hx hb hr hlocks hS rfl hp559 hw ⟨ok561, (Fr.tr (Fr.rf) F560 (by decide)), (b_wid2 bd881 (by decide) (by decide))⟩ (Nat.le_of_ble_eq_true rfl) (Nat.le_of_ble_eq_true rfl) dX7_examine_140
          · skip
            have bd883 : (0 : Int) ≤ zi558.toInt ∧ zi558.toInt ≤ 15 := r_lt_x (Int32.not_le.mp cn776) bd562 bd775 (by decide) (by decide)
            have bd884 : (1 : Int) ≤ zi774.toInt ∧ zi774.toInt ≤ 16 := r_lt_y (Int32.not_le.mp cn776) bd562 bd775 (by decide) (by decide)
            refine lv_iload hx hb dX7_examine_68 (lv_at hl 4 rfl) ?_
            refine lv_iload hx hb dX7_examine_70 (lv_at hl 5 rfl) ?_
            refine lv_ishr hx hb dX7_examine_72 (lv_topi (fun zi885 ea886 => ?_))
            refine lv_iconst (v := 1) hx hb dX7_examine_73 (by decide) ?_
            refine lv_iand hx hb dX7_examine_74 (lv_topi (fun zi887 ea888 => ?_))
            have bd889 : (0 : Int) ≤ zi887.toInt ∧ zi887.toInt ≤ 1 := b_and_r ea888 bc_1 (by decide) (by decide) (by decide)
            have jn935 : ∀ (hp932 : Nat → Nat → Value)  (H : Heap) (locs : List Loc) (ls : Array Slot), Ok K hp932 → Fr [3003, 3004, 8000, 8002, 27000, 42000] K hp559 hp932 → lv_has ls 8 [(0, .ref qa900), (1, .ref qa901), (2, .int zi902), (3, .int zi5), (5, .int zi20), (6, .int zi558)] → PW G cy K ln Ls A hp932 H → va_S A s.heap H locs → W p l e ({ frames := 3, cells := 0, slots := 0, locals := 68 } : Room) s m ([.ref qa900, .ref qa901, .int zi902] : List Value).toArray below meth c H locs 0 0 Q (F0 m 129 ls []) := by
              intro hp932 H locs ls ok934 F933 hl hw hS
              obtain ⟨zi936, ea937⟩ : ∃ z : Int32, z = zi558 + 1 := ⟨_, rfl⟩
              have bd938 : (1 : Int) ≤ zi936.toInt ∧ zi936.toInt ≤ 16 := b_iadd ea937 bd883 bc_1 (by decide) (by decide) (by decide) (by decide)
              have qe939 : zi936.toInt = (zi558 : Int32).toInt + (1 : Int32).toInt := e_iadd ea937 bd883 bc_1 (by decide) (by decide)
              have qe940 : zi936.toInt = zi558.toInt + 1 := by have ha : (1 : Int32).toInt = 1 := (by decide); rw [ha] at qe939; exact qe939
              refine lv_iinc (v := zi936) (lv' := [(6, .int zi936), (0, .ref qa900), (1, .ref qa901), (2, .int zi902), (3, .int zi5), (5, .int zi20)]) hx hb dX7_examine_129 hl (k := 5) rfl ea937.symm (by decide) rfl (fun ls hl => ?_)
              refine lv_goto (tgt := 59) hx hb dX7_examine_132 (by decide) ?_
              exact ih770 hp932 zi936 _ _ ls (by have := hm772; have := qe940; omega) ok934 (Fr.tr (Fr.tr (Fr.rf) F560 (by decide)) F933 (by decide)) (b_wid2 bd938 (by decide) (by decide)) (lv_sub hl [1, 2, 3, 4, 5, 0] rfl) hw hS
            refine lv_if_eq (tgt := 129) hx hb dX7_examine_75 (by decide) (fun cn890 => ?_) (fun cn890 => ?_)
            · skip
              have bd941 : (0 : Int) ≤ zi887.toInt ∧ zi887.toInt ≤ 0 := r_eq_x cn890 bd889 bc_0 (by decide) (by decide)
              exact jn935 hp559 _ _ ls ok561 (Fr.rf) (lv_sub hl [0, 1, 2, 3, 4, 5] rfl) hw hS
            · skip
              have bd942 : (1 : Int) ≤ zi887.toInt ∧ zi887.toInt ≤ 1 := r_ne_lo cn890 bd889 (toi bc_0) (by decide) (by decide)
              refine lv_aload_n hx hb dX7_examine_78 rfl (lv_at hl 1 rfl) ?_
              obtain ⟨qa944, eq943, kd945⟩ := rd_11018 ok561 kd901
              refine p_getN (ci := 10) (v := .ref qa944) (C := RX10) (T := TX10) (N := 20) hx hb hT iw_X10 hown hK hw hW kd901 (by decide) rfl rfl 18 (by decide) eq943 (hK.fl nw_139) (fun _ h9 => h9) dX7_examine_79 ?_
              refine lv_aload_n hx hb dX7_examine_82 rfl (lv_at hl 0 rfl) ?_
              refine lv_iload_n hx hb dX7_examine_83 rfl (lv_at hl 3 rfl) ?_
              refine kq_i hw hS hA (va_runV (As := [.ref qa900, .int zi5]) (rest := []) ⟨hx, hb, hml, hown, hT⟩ (cX2_minutes_0 l G cy ev K ln Ls hW _ hp559 ok561 qa944 qa900 zi5 kd945 kd900) (cwV 2 hT (good_V tb_1074 tb_1071 tb_1072 tb_1073 tb_108) rfl rfl rfl (by decide +kernel) ⟨Nat.le_of_ble_eq_true rfl, Nat.le_of_ble_eq_true rfl⟩) (pool_preV (ci := 2) hK hE hS hA hw hW kd945 (by decide) rfl) rfl rfl hl.1 rfl (lv_room (Nat.le_of_ble_eq_true rfl)) dX7_examine_84 ⟨Nat.le_of_ble_eq_true rfl, Nat.le_of_ble_eq_true rfl⟩) (fun zi950 hp946 H locs hq949 hw hS => ?_)
              obtain ⟨ok947, F948, bd951⟩ := hq949
              have hw : PW G cy K ln Ls A hp946 H := hw
              refine lv_istore (lv' := [(7, .int zi950), (0, .ref qa900), (1, .ref qa901), (2, .int zi902), (3, .int zi5), (5, .int zi20), (6, .int zi558)]) hx hb dX7_examine_87 hl (by decide) rfl (fun ls hl => ?_)
              refine lv_aload_n hx hb dX7_examine_89 rfl (lv_at hl 1 rfl) ?_
              refine lv_dup hx hb dX7_examine_90 rfl ?_
              obtain ⟨zi953, eq952⟩ := rd_8002 ok947 kd900
              refine p_get (ci := 7) (v := .int zi953) (C := RX7) (T := TX7) (N := 13) hx hb hT iw_X7 hown hK hw hW kd900 (by decide) rfl rfl 2 (by decide) eq952 (hT _ tb_420) (fun _ h9 => h9) dX7_examine_91 ?_
              refine lv_iconst (v := 1) hx hb dX7_examine_94 (by decide) ?_
              refine lv_iload hx hb dX7_examine_95 (lv_at hl 6 rfl) ?_
              refine lv_ishl hx hb dX7_examine_97 (lv_topi (fun zi954 ea955 => ?_))
              have bd956 : (1 : Int) ≤ zi954.toInt ∧ zi954.toInt ≤ 32768 := b_shl1 15 ea955 bd883 (by decide) (by decide) (by decide) (by decide) (by decide)
              refine lv_ior hx hb dX7_examine_98 (lv_topi (fun zi957 ea958 => ?_))
              refine p_put (ci := 7) (v := .int zi957) (ty := .int) (C := RX7) (T := TX7) (N := 13) hx hb hT iw_X7 tyX7 tyX7_ok nmX7 hown hK hw hS hW kd900 (by decide) rfl rfl 2 (by decide) (hT _ tb_420) (fun _ h9 => h9) rfl (by decide +kernel) rfl rfl dX7_examine_99 (fun hp959 eh960 H locs hw hS => ?_)
              have ok961 := wr_8002 ok947 kd900 eh960
              refine lv_aload_n hx hb dX7_examine_102 rfl (lv_at hl 1 rfl) ?_
              obtain ⟨qa963, eq962, kd964⟩ := rd_8012 ok961 kd900
              refine p_get (ci := 7) (v := .ref qa963) (C := RX7) (T := TX7) (N := 13) hx hb hT iw_X7 hown hK hw hW kd900 (by decide) rfl rfl 12 (by decide) eq962 (hT _ tb_442) (fun _ h9 => h9) dX7_examine_103 ?_
              refine lv_iload_n hx hb dX7_examine_106 rfl (lv_at hl 3 rfl) ?_
              refine lv_dup2_11 hx hb dX7_examine_107 rfl rfl ?_
              obtain ⟨zi966, eq965⟩ := rd_42000 ok961 kd964 ((zi902 : Int32).toNatClampNeg)
              refine p_iald (v := zi966) hx hb hK hw hW kd964 (by decide) rfl (hW.len kd964 (n := 6) rfl (by decide)) (vp_b bd902 (by decide) (by decide)) eq965 dX7_examine_108 ?_
              refine lv_iload hx hb dX7_examine_109 (lv_at hl 0 rfl) ?_
              refine lv_isub hx hb dX7_examine_111 (lv_topi (fun zi967 ea968 => ?_))
              refine p_iast (x := zi967) hx hb hK hw hS hW kd964 (by decide) rfl (hW.len kd964 (n := 6) rfl (by decide)) (vp_b bd902 (by decide) (by decide)) dX7_examine_112 (fun hp969 eh970 H locs hw hS => ?_)
              have ok971 := wr_42000 ok961 kd964 eh970
              refine lv_aload_n hx hb dX7_examine_113 rfl (lv_at hl 1 rfl) ?_
              refine lv_aload_n hx hb dX7_examine_114 rfl (lv_at hl 1 rfl) ?_
              obtain ⟨zi973, eq972⟩ := rd_8000 ok971 kd900
              refine p_get (ci := 7) (v := .int zi973) (C := RX7) (T := TX7) (N := 13) hx hb hT iw_X7 hown hK hw hW kd900 (by decide) rfl rfl 0 (by decide) eq972 (hT _ tb_411) (fun _ h9 => h9) dX7_examine_115 ?_
              refine lv_iload hx hb dX7_examine_118 (lv_at hl 0 rfl) ?_
              refine lv_isub hx hb dX7_examine_120 (lv_topi (fun zi974 ea975 => ?_))
              refine lv_ldc (v := (-100000)) hx hb hown (hT _ tb_1097) dX7_examine_121 ?_
              refine va_mmax hx hb (hml.trans hl.1.symm) hown (hT _ tb_1098) (hT _ tb_788) (hT _ tb_123) (hT _ tb_789) (Nat.le_of_ble_eq_true rfl) (Nat.le_of_ble_eq_true rfl) (Nat.le_of_ble_eq_true rfl) (Nat.le_of_ble_eq_true rfl) dX7_examine_123 (lv_topi (fun zi976 ea977 => ?_))
              have bd978 : (-100000 : Int) ≤ zi976.toInt ∧ zi976.toInt ≤ 2147483647 := b_max ea977 (b_all zi974) bc_m100000 (by decide) (by decide) (by decide)
              refine p_put (ci := 7) (v := .int zi976) (ty := .int) (C := RX7) (T := TX7) (N := 13) hx hb hT iw_X7 tyX7 tyX7_ok nmX7 hown hK hw hS hW kd900 (by decide) rfl rfl 0 (by decide) (hT _ tb_411) (fun _ h9 => h9) rfl (by decide +kernel) rfl rfl dX7_examine_126 (fun hp979 eh980 H locs hw hS => ?_)
              have ok981 := wr_8000 ok971 kd900 eh980
              exact jn935 hp979 _ _ ls ok981 (Fr.put (cq := 8000) (Fr.put (cq := 42000) (Fr.put (cq := 8002) (Fr.tr (Fr.rf) F948 (by decide)) eh960 kd900 (cd_o (by decide)) (by decide)) eh970 kd964 (cd_a (by decide)) (by decide)) eh980 kd900 (cd_o (by decide)) (by decide)) (lv_sub hl [1, 2, 3, 4, 5, 6] rfl) hw hS
      exact lp771 _ hp0 0 _ _ ls (lp_in _) ok0 (Fr.rf) (b_wid2 bc_0 (by decide) (by decide)) (lv_sub hl [4, 5, 6, 3, 1, 0] rfl) hw hS
    · skip
      refine lv_iconst (v := 0) hx hb dX7_examine_54 (by decide) ?_
      rw [hQ]
      exact kz_i hx hb hr hlocks hS rfl hp0 hw ⟨ok0, (Fr.rf), (b_wid2 bc_0 (by decide) (by decide))⟩ (Nat.le_of_ble_eq_true rfl) (Nat.le_of_ble_eq_true rfl) dX7_examine_55
