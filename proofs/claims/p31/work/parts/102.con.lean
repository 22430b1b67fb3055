set_option maxRecDepth 100000 in
set_option maxHeartbeats 4000000 in
theorem cX10_witnessNamed_0 (l : Launch) (G : va_G) (cy : Nat → ClassId) (ev : Ew) (K ln : Nat → Nat) (Ls : List Nat) (hW : SW K ln Ls) (sz : Nat) (hp0 : Nat → Nat → Value) (ok0 : Ok K hp0) (qa900 : Nat) (wl901 : Int64) (kd900 : K qa900 = 11) : Met l yX10_witnessNamed (WS yX10_witnessNamed cX10_witnessNamed 3 (some .int)) { frames := 1, cells := 0, slots := 0, locals := 24 } (PB2 [.ref qa900, .long wl901] sz G cy ev (va_pl Ls (cellOf cy K ln hp0))) (QBi (S := (Nat → Nat → Value)) (fun (r : Int32) (u : (Nat → Nat → Value)) => Ok K u ∧ Fr [] K hp0 u ∧ ((-1 : Int) ≤ r.toInt ∧ r.toInt ≤ 5)) G (fun u => va_pl Ls (cellOf cy K ln u)) (va_A (va_pl Ls (cellOf cy K ln hp0)) sz)) 0 0 (va_A (va_pl Ls (cellOf cy K ln hp0)) sz) := by
  refine met_of2 (y := yX10_witnessNamed) (L := 3) (av := [.ref qa900, .long wl901]) (Qc := fun A => QBi (S := (Nat → Nat → Value)) (fun (r : Int32) (u : (Nat → Nat → Value)) => Ok K u ∧ Fr [] K hp0 u ∧ ((-1 : Int) ≤ r.toInt ∧ r.toInt ≤ 5)) G (fun u => va_pl Ls (cellOf cy K ln u)) A) (plainFor_of_name (by decide)) (Nat.le_of_ble_eq_true rfl) ?_
  intro p e s m below meth c hsz hx hb hr hml hown hT hlocks hin hK A hA hE hw hS ls hl
  have hw : PW G cy K ln Ls A hp0 s.heap := hw
  have hown : s.vm.findClass "LieClock$Told" = some m.cls := hown
  have hl : lv_has ls 3 [(0, .ref qa900), (1, .long wl901)] := hl
  obtain ⟨Q, hQ⟩ : ∃ Q : State → Prop, Q = MQ below (QBi (S := (Nat → Nat → Value)) (fun (r : Int32) (u : (Nat → Nat → Value)) => Ok K u ∧ Fr [] K hp0 u ∧ ((-1 : Int) ≤ r.toInt ∧ r.toInt ≤ 5)) G (fun u => va_pl Ls (cellOf cy K ln u)) A) ([.ref qa900, .long wl901] : List Value).toArray s 0 0 A := ⟨_, rfl⟩
  rw [← hQ]
  refine lv_aload_n hx hb dX10_witnessNamed_0 rfl (lv_at hl 0 rfl) ?_
  obtain ⟨qa2, eq1, kd3⟩ := rd_11011 ok0 kd900
  refine p_get (ci := 10) (v := .ref qa2) (C := RX10) (T := TX10) (N := 20) hx hb hT iw_X10 hown hK hw hW kd900 (by decide) rfl rfl 11 (by decide) eq1 (hT _ tb_223) (fun _ h9 => h9) dX10_witnessNamed_1 ?_
  refine lv_aload_n hx hb dX10_witnessNamed_4 rfl (lv_at hl 0 rfl) ?_
  obtain ⟨zi5, eq4, bd6⟩ := rd_11003 ok0 kd900
  refine p_get (ci := 10) (v := .int zi5) (C := RX10) (T := TX10) (N := 20) hx hb hT iw_X10 hown hK hw hW kd900 (by decide) rfl rfl 3 (by decide) eq4 (hT _ tb_192) (fun _ h9 => h9) dX10_witnessNamed_5 ?_
  refine lv_lload_n hx hb dX10_witnessNamed_8 rfl (lv_at hl 1 rfl) ?_
  refine kq_i hw hS hA (va_runS (As := [.ref qa2, .int zi5, .long wl901]) (rest := []) ⟨hx, hb, hml, hown, hT⟩ (cX10_indexOf_1 l G cy ev K ln Ls hW _ hp0 ok0 qa2 zi5 wl901 kd3) (va_cwS 3 hT (good_S tb_873 tb_871 tb_872 tb_107) rfl rfl rfl (by decide +kernel) ⟨Nat.le_of_ble_eq_true rfl, Nat.le_of_ble_eq_true rfl⟩) (PB2.preS hK hE hS hA hw) rfl rfl hl.1 rfl (lv_room (Nat.le_of_ble_eq_true rfl)) dX10_witnessNamed_9 ⟨Nat.le_of_ble_eq_true rfl, Nat.le_of_ble_eq_true rfl⟩) (fun zi11 hp7 H locs hq10 hw hS => ?_)
  obtain ⟨ok8, F9, bd12⟩ := hq10
  obtain rfl : hp0 = hp7 := (Fr.nil F9).symm
  have hw : PW G cy K ln Ls A hp0 H := hw
  rw [hQ]
  exact kz_i hx hb hr hlocks hS rfl hp0 hw ⟨ok0, (Fr.rf), (b_wid2 bd12 (by decide) (by decide))⟩ (Nat.le_of_ble_eq_true rfl) (Nat.le_of_ble_eq_true rfl) dX10_witnessNamed_12

set_option maxRecDepth 100000 in
set_option maxHeartbeats 4000000 in
theorem cX10_indexOf_2 (l : Launch) (G : va_G) (cy : Nat → ClassId) (ev : Ew) (K ln : Nat → Nat) (Ls : List Nat) (hW : SW K ln Ls) (sz : Nat) (hp0 : Nat → Nat → Value) (ok0 : Ok K hp0) (qa900 : Nat) (zi901 : Int32) (wl902 : Int64) (kd900 : K qa900 = 53) : Met l yX10_indexOf (WS yX10_indexOf cX10_indexOf 5 (some .int)) { frames := 0, cells := 0, slots := 0, locals := 0 } (PB2 [.ref qa900, .int zi901, .long wl902] sz G cy ev (va_pl Ls (cellOf cy K ln hp0))) (QBi (S := (Nat → Nat → Value)) (fun (r : Int32) (u : (Nat → Nat → Value)) => Ok K u ∧ Fr [] K hp0 u ∧ ((-1 : Int) ≤ r.toInt ∧ r.toInt ≤ 7)) G (fun u => va_pl Ls (cellOf cy K ln u)) (va_A (va_pl Ls (cellOf cy K ln hp0)) sz)) 0 0 (va_A (va_pl Ls (cellOf cy K ln hp0)) sz) := by
  refine met_of2 (y := yX10_indexOf) (L := 5) (av := [.ref qa900, .int zi901, .long wl902]) (Qc := fun A => QBi (S := (Nat → Nat → Value)) (fun (r : Int32) (u : (Nat → Nat → Value)) => Ok K u ∧ Fr [] K hp0 u ∧ ((-1 : Int) ≤ r.toInt ∧ r.toInt ≤ 7)) G (fun u => va_pl Ls (cellOf cy K ln u)) A) (plainFor_of_name (by decide)) (Nat.le_of_ble_eq_true rfl) ?_
  intro p e s m below meth c hsz hx hb hr hml hown hT hlocks hin hK A hA hE hw hS ls hl
  have hw : PW G cy K ln Ls A hp0 s.heap := hw
  have hown : s.vm.findClass "LieClock$Told" = some m.cls := hown
  have hl : lv_has ls 5 [(0, .ref qa900), (1, .int zi901), (2, .long wl902)] := hl
  obtain ⟨Q, hQ⟩ : ∃ Q : State → Prop, Q = MQ below (QBi (S := (Nat → Nat → Value)) (fun (r : Int32) (u : (Nat → Nat → Value)) => Ok K u ∧ Fr [] K hp0 u ∧ ((-1 : Int) ≤ r.toInt ∧ r.toInt ≤ 7)) G (fun u => va_pl Ls (cellOf cy K ln u)) A) ([.ref qa900, .int zi901, .long wl902] : List Value).toArray s 0 0 A := ⟨_, rfl⟩
  rw [← hQ]
  refine lv_iconst (v := 0) hx hb dX10_indexOf_0 (by decide) ?_
  refine lv_istore (lv' := [(4, .int 0), (0, .ref qa900), (1, .int zi901), (2, .long wl902)]) hx hb dX10_indexOf_1 hl (by decide) rfl (fun ls hl => ?_)
  have lp118 : ∀ (n116 : Nat) (zi80 : Int32) (H : Heap) (locs : List Loc) (ls : Array Slot), 8 - zi80.toInt < (n116 : Int) → ((0 : Int) ≤ zi80.toInt ∧ zi80.toInt ≤ 8) → lv_has ls 5 [(0, .ref qa900), (1, .int zi901), (2, .long wl902), (4, .int zi80)] → PW G cy K ln Ls A hp0 H → va_S A s.heap H locs → W p l e ({ frames := 0, cells := 0, slots := 0, locals := 0 } : Room) s m ([.ref qa900, .int zi901, .long wl902] : List Value).toArray below meth c H locs 0 0 Q (F0 m 3 ls []) := by
    intro n116
    induction n116 with
    | zero =>
      intro zi80 H locs ls hm119 bd81 hl hw hS
      exact absurd hm119 (by have := bd81; omega)
    | succ n116 ih117 =>
      intro zi80 H locs ls hm119 bd81 hl hw hS
      refine lv_iload hx hb dX10_indexOf_3 (lv_at hl 3 rfl) ?_
      refine lv_iload_n hx hb dX10_indexOf_5 rfl (lv_at hl 1 rfl) ?_
      refine lv_icmp_ge (tgt := 34) hx hb dX10_indexOf_6 (by decide) (fun cn120 => ?_) (fun cn120 => ?_)
      · skip
        have bd121 : (-2147483648 : Int) ≤ zi901.toInt ∧ zi901.toInt ≤ 8 := r_le_x cn120 (b_all zi901) bd81 (by decide) (by decide)
        refine lv_iconst (v := (-1)) hx hb dX10_indexOf_34 (by decide) ?_
        rw [hQ]
        exact kz_i hx hb hr hlocks hS rfl hp0 hw ⟨ok0, (Fr.rf), (b_wid2 bc_m1 (by decide) (by decide))⟩ (Nat.le_of_ble_eq_true rfl) (Nat.le_of_ble_eq_true rfl) dX10_indexOf_35
      · skip
        have bd122 : (1 : Int) ≤ zi901.toInt ∧ zi901.toInt ≤ 2147483647 := r_lt_y (Int32.not_le.mp cn120) bd81 (b_all zi901) (by decide) (by decide)
        refine lv_iload hx hb dX10_indexOf_9 (lv_at hl 3 rfl) ?_
        refine lv_aload_n hx hb dX10_indexOf_11 rfl (lv_at hl 0 rfl) ?_
        refine p_alen (v := 8) hx hb hK hw hW kd900 (by decide) rfl rfl (by rw [hW.len kd900 (n := 8) rfl (by decide)]; decide) dX10_indexOf_12 ?_
        refine lv_icmp_ge (tgt := 34) hx hb dX10_indexOf_13 (by decide) (fun cn123 => ?_) (fun cn123 => ?_)
        · skip
          have bd124 : (8 : Int) ≤ zi80.toInt ∧ zi80.toInt ≤ 8 := r_le_y cn123 bc_8 bd81 (by decide) (by decide)
          refine lv_iconst (v := (-1)) hx hb dX10_indexOf_34 (by decide) ?_
          rw [hQ]
          exact kz_i hx hb hr hlocks hS rfl hp0 hw ⟨ok0, (Fr.rf), (b_wid2 bc_m1 (by decide) (by decide))⟩ (Nat.le_of_ble_eq_true rfl) (Nat.le_of_ble_eq_true rfl) dX10_indexOf_35
        · skip
          have bd125 : (0 : Int) ≤ zi80.toInt ∧ zi80.toInt ≤ 7 := r_lt_x (Int32.not_le.mp cn123) bd81 bc_8 (by decide) (by decide)
          refine lv_aload_n hx hb dX10_indexOf_16 rfl (lv_at hl 0 rfl) ?_
          refine lv_iload hx hb dX10_indexOf_17 (lv_at hl 3 rfl) ?_
          obtain ⟨wl127, eq126⟩ := rd_53000 ok0 kd900 ((zi80 : Int32).toNatClampNeg)
          refine p_lald (v := wl127) hx hb hK hw hW kd900 (by decide) rfl (hW.len kd900 (n := 8) rfl (by decide)) (vp_b bd125 (by decide) (by decide)) eq126 dX10_indexOf_19 ?_
          refine lv_lload_n hx hb dX10_indexOf_20 rfl (lv_at hl 2 rfl) ?_
          refine W.lcmp hx hb dX10_indexOf_21 (lv_topi (fun zi128 ea129 => ?_))
          refine lv_if_ne (tgt := 28) hx hb dX10_indexOf_22 (by decide) (fun cn130 => ?_) (fun cn130 => ?_)
          · skip
            obtain ⟨zi131, ea132⟩ : ∃ z : Int32, z = zi80 + 1 := ⟨_, rfl⟩
            have bd133 : (1 : Int) ≤ zi131.toInt ∧ zi131.toInt ≤ 8 := b_iadd ea132 bd125 bc_1 (by decide) (by decide) (by decide) (by decide)
            have qe134 : zi131.toInt = (zi80 : Int32).toInt + (1 : Int32).toInt := e_iadd ea132 bd125 bc_1 (by decide) (by decide)
            have qe135 : zi131.toInt = zi80.toInt + 1 := by have ha : (1 : Int32).toInt = 1 := (by decide); rw [ha] at qe134; exact qe134
            refine lv_iinc (v := zi131) (lv' := [(4, .int zi131), (0, .ref qa900), (1, .int zi901), (2, .long wl902)]) hx hb dX10_indexOf_28 hl (k := 3) rfl ea132.symm (by decide) rfl (fun ls hl => ?_)
            refine lv_goto (tgt := 3) hx hb dX10_indexOf_31 (by decide) ?_
            exact ih117 zi131 _ _ ls (by have := hm119; have := qe135; omega) (b_wid2 bd133 (by decide) (by decide)) (lv_sub hl [1, 2, 3, 0] rfl) hw hS
          · skip
            have bd136 : (0 : Int) ≤ zi128.toInt ∧ zi128.toInt ≤ 0 := r_eq_x cn130 (b_all zi128) bc_0 (by decide) (by decide)
            refine lv_iload hx hb dX10_indexOf_25 (lv_at hl 3 rfl) ?_
            rw [hQ]
            exact kz_i hx hb hr hlocks hS rfl hp0 hw ⟨ok0, (Fr.rf), (b_wid2 bd125 (by decide) (by decide))⟩ (Nat.le_of_ble_eq_true rfl) (Nat.le_of_ble_eq_true rfl) dX10_indexOf_27
  exact lp118 _ 0 _ _ ls (lp_in _) (b_wid2 bc_0 (by decide) (by decide)) (lv_sub hl [1, 2, 3, 0] rfl) hw hS

set_option maxRecDepth 100000 in
set_option maxHeartbeats 4000000 in
theorem cX10_isTold_0 (l : Launch) (G : va_G) (cy : Nat → ClassId) (ev : Ew) (K ln : Nat → Nat) (Ls : List Nat) (hW : SW K ln Ls) (sz : Nat) (hp0 : Nat → Nat → Value) (ok0 : Ok K hp0) (qa900 : Nat) (wl901 : Int64) (kd900 : K qa900 = 11) : Met l yX10_isTold (WS yX10_isTold cX10_isTold 3 (some .boolean)) { frames := 2, cells := 0, slots := 0, locals := 46 } (PB2 [.ref qa900, .long wl901] sz G cy ev (va_pl Ls (cellOf cy K ln hp0))) (QBi (S := (Nat → Nat → Value)) (fun (r : Int32) (u : (Nat → Nat → Value)) => Ok K u ∧ Fr [] K hp0 u ∧ ((0 : Int) ≤ r.toInt ∧ r.toInt ≤ 1)) G (fun u => va_pl Ls (cellOf cy K ln u)) (va_A (va_pl Ls (cellOf cy K ln hp0)) sz)) 0 0 (va_A (va_pl Ls (cellOf cy K ln hp0)) sz) := by
  refine met_of2 (y := yX10_isTold) (L := 3) (av := [.ref qa900, .long wl901]) (Qc := fun A => QBi (S := (Nat → Nat → Value)) (fun (r : Int32) (u : (Nat → Nat → Value)) => Ok K u ∧ Fr [] K hp0 u ∧ ((0 : Int) ≤ r.toInt ∧ r.toInt ≤ 1)) G (fun u => va_pl Ls (cellOf cy K ln u)) A) (plainFor_of_name (by decide)) (Nat.le_of_ble_eq_true rfl) ?_
  intro p e s m below meth c hsz hx hb hr hml hown hT hlocks hin hK A hA hE hw hS ls hl
  have hw : PW G cy K ln Ls A hp0 s.heap := hw
  have hown : s.vm.findClass "LieClock$Told" = some m.cls := hown
  have hl : lv_has ls 3 [(0, .ref qa900), (1, .long wl901)] := hl
  obtain ⟨Q, hQ⟩ : ∃ Q : State → Prop, Q = MQ below (QBi (S := (Nat → Nat → Value)) (fun (r : Int32) (u : (Nat → Nat → Value)) => Ok K u ∧ Fr [] K hp0 u ∧ ((0 : Int) ≤ r.toInt ∧ r.toInt ≤ 1)) G (fun u => va_pl Ls (cellOf cy K ln u)) A) ([.ref qa900, .long wl901] : List Value).toArray s 0 0 A := ⟨_, rfl⟩
  rw [← hQ]
  refine lv_aload_n hx hb dX10_isTold_0 rfl (lv_at hl 0 rfl) ?_
  refine lv_lload_n hx hb dX10_isTold_1 rfl (lv_at hl 1 rfl) ?_
  refine kq_i hw hS hA (va_runV (As := [.long wl901]) (rest := []) ⟨hx, hb, hml, hown, hT⟩ (cX10_factNamed_0 l G cy ev K ln Ls hW _ hp0 ok0 qa900 wl901 kd900) (cwV 1 hT (good_V tb_870 tb_867 tb_868 tb_869 tb_107) rfl rfl rfl (by decide +kernel) ⟨Nat.le_of_ble_eq_true rfl, Nat.le_of_ble_eq_true rfl⟩) (pool_preV (ci := 10) hK hE hS hA hw hW kd900 (by decide) rfl) rfl rfl hl.1 rfl (lv_room (Nat.le_of_ble_eq_true rfl)) dX10_isTold_2 ⟨Nat.le_of_ble_eq_true rfl, Nat.le_of_ble_eq_true rfl⟩) (fun zi5 hp1 H locs hq4 hw hS => ?_)
  obtain ⟨ok2, F3, bd6⟩ := hq4
  obtain rfl : hp0 = hp1 := (Fr.nil F3).symm
  have hw : PW G cy K ln Ls A hp0 H := hw
  have jn36 : ∀ (zi34 : Int32) (H : Heap) (locs : List Loc) (ls : Array Slot), ((0 : Int) ≤ zi34.toInt ∧ zi34.toInt ≤ 1) → lv_has ls 3 [] → PW G cy K ln Ls A hp0 H → va_S A s.heap H locs → W p l e ({ frames := 2, cells := 0, slots := 0, locals := 46 } : Room) s m ([.ref qa900, .long wl901] : List Value).toArray below meth c H locs 0 0 Q (F0 m 36 ls [.int zi34]) := by
    intro zi34 H locs ls bd35 hl hw hS
    rw [hQ]
    exact kz_i hx hb hr hlocks hS (nz_n bd35 (by decide) (by decide)) hp0 hw ⟨ok0, (Fr.rf), (b_wid2 bd35 (by decide) (by decide))⟩ (Nat.le_of_ble_eq_true rfl) (Nat.le_of_ble_eq_true rfl) dX10_isTold_36
  refine lv_if_ge (tgt := 31) hx hb dX10_isTold_5 (by decide) (fun cn7 => ?_) (fun cn7 => ?_)
  · skip
    have bd37 : (0 : Int) ≤ zi5.toInt ∧ zi5.toInt ≤ 5 := r_le_y cn7 bc_0 bd6 (by decide) (by decide)
    refine lv_iconst (v := 1) hx hb dX10_isTold_31 (by decide) ?_
    refine lv_goto (tgt := 36) hx hb dX10_isTold_32 (by decide) ?_
    exact jn36 1 _ _ ls (b_wid2 bc_1 (by decide) (by decide)) (lv_sub hl [] rfl) hw hS
  · skip
    have bd38 : (-1 : Int) ≤ zi5.toInt ∧ zi5.toInt ≤ -1 := r_lt_x (Int32.not_le.mp cn7) bd6 bc_0 (by decide) (by decide)
    refine lv_aload_n hx hb dX10_isTold_8 rfl (lv_at hl 0 rfl) ?_
    refine lv_lload_n hx hb dX10_isTold_9 rfl (lv_at hl 1 rfl) ?_
    refine kq_i hw hS hA (va_runV (As := [.long wl901]) (rest := []) ⟨hx, hb, hml, hown, hT⟩ (cX10_witnessNamed_0 l G cy ev K ln Ls hW _ hp0 ok0 qa900 wl901 kd900) (cwV 1 hT (good_V tb_877 tb_874 tb_875 tb_876 tb_107) rfl rfl rfl (by decide +kernel) ⟨Nat.le_of_ble_eq_true rfl, Nat.le_of_ble_eq_true rfl⟩) (pool_preV (ci := 10) hK hE hS hA hw hW kd900 (by decide) rfl) rfl rfl hl.1 rfl (lv_room (Nat.le_of_ble_eq_true rfl)) dX10_isTold_10 ⟨Nat.le_of_ble_eq_true rfl, Nat.le_of_ble_eq_true rfl⟩) (fun zi43 hp39 H locs hq42 hw hS => ?_)
    obtain ⟨ok40, F41, bd44⟩ := hq42
    obtain rfl : hp0 = hp39 := (Fr.nil F41).symm
    have hw : PW G cy K ln Ls A hp0 H := hw
    refine lv_if_ge (tgt := 31) hx hb dX10_isTold_13 (by decide) (fun cn45 => ?_) (fun cn45 => ?_)
    · skip
      have bd46 : (0 : Int) ≤ zi43.toInt ∧ zi43.toInt ≤ 5 := r_le_y cn45 bc_0 bd44 (by decide) (by decide)
      refine lv_iconst (v := 1) hx hb dX10_isTold_31 (by decide) ?_
      refine lv_goto (tgt := 36) hx hb dX10_isTold_32 (by decide) ?_
      exact jn36 1 _ _ ls (b_wid2 bc_1 (by decide) (by decide)) (lv_sub hl [] rfl) hw hS
    · skip
      have bd47 : (-1 : Int) ≤ zi43.toInt ∧ zi43.toInt ≤ -1 := r_lt_x (Int32.not_le.mp cn45) bd44 bc_0 (by decide) (by decide)
      refine lv_aload_n hx hb dX10_isTold_16 rfl (lv_at hl 0 rfl) ?_
      obtain ⟨qa49, eq48, kd50⟩ := rd_11015 ok0 kd900
      refine p_get (ci := 10) (v := .ref qa49) (C := RX10) (T := TX10) (N := 20) hx hb hT iw_X10 hown hK hw hW kd900 (by decide) rfl rfl 15 (by decide) eq48 (hT _ tb_233) (fun _ h9 => h9) dX10_isTold_17 ?_
      refine lv_aload_n hx hb dX10_isTold_20 rfl (lv_at hl 0 rfl) ?_
      obtain ⟨zi52, eq51, bd53⟩ := rd_11007 ok0 kd900
      refine p_get (ci := 10) (v := .int zi52) (C := RX10) (T := TX10) (N := 20) hx hb hT iw_X10 hown hK hw hW kd900 (by decide) rfl rfl 7 (by decide) eq51 (hT _ tb_212) (fun _ h9 => h9) dX10_isTold_21 ?_
      refine lv_lload_n hx hb dX10_isTold_24 rfl (lv_at hl 1 rfl) ?_
      refine kq_i hw hS hA (va_runS (As := [.ref qa49, .int zi52, .long wl901]) (rest := []) ⟨hx, hb, hml, hown, hT⟩ (cX10_indexOf_2 l G cy ev K ln Ls hW _ hp0 ok0 qa49 zi52 wl901 kd50) (va_cwS 3 hT (good_S tb_873 tb_871 tb_872 tb_107) rfl rfl rfl (by decide +kernel) ⟨Nat.le_of_ble_eq_true rfl, Nat.le_of_ble_eq_true rfl⟩) (PB2.preS hK hE hS hA hw) rfl rfl hl.1 rfl (lv_room (Nat.le_of_ble_eq_true rfl)) dX10_isTold_25 ⟨Nat.le_of_ble_eq_true rfl, Nat.le_of_ble_eq_true rfl⟩) (fun zi58 hp54 H locs hq57 hw hS => ?_)
      obtain ⟨ok55, F56, bd59⟩ := hq57
      obtain rfl : hp0 = hp54 := (Fr.nil F56).symm
      have hw : PW G cy K ln Ls A hp0 H := hw
      refine lv_if_lt (tgt := 35) hx hb dX10_isTold_28 (by decide) (fun cn60 => ?_) (fun cn60 => ?_)
      · skip
        have bd61 : (-1 : Int) ≤ zi58.toInt ∧ zi58.toInt ≤ -1 := r_lt_x cn60 bd59 bc_0 (by decide) (by decide)
        refine lv_iconst (v := 0) hx hb dX10_isTold_35 (by decide) ?_
        exact jn36 0 _ _ ls (b_wid2 bc_0 (by decide) (by decide)) (lv_sub hl [] rfl) hw hS
      · skip
        have bd62 : (0 : Int) ≤ zi58.toInt ∧ zi58.toInt ≤ 7 := r_le_y (Int32.not_lt.mp cn60) bc_0 bd59 (by decide) (by decide)
        refine lv_iconst (v := 1) hx hb dX10_isTold_31 (by decide) ?_
        refine lv_goto (tgt := 36) hx hb dX10_isTold_32 (by decide) ?_
        exact jn36 1 _ _ ls (b_wid2 bc_1 (by decide) (by decide)) (lv_sub hl [] rfl) hw hS

set_option maxRecDepth 100000 in
set_option maxHeartbeats 4000000 in
theorem cX10_hasWord_0 (l : Launch) (G : va_G) (cy : Nat → ClassId) (ev : Ew) (K ln : Nat → Nat) (Ls : List Nat) (hW : SW K ln Ls) (sz : Nat) (hp0 : Nat → Nat → Value) (ok0 : Ok K hp0) (qa900 : Nat) (zi901 : Int32) (kd900 : K qa900 = 11) : Met l yX10_hasWord (WS yX10_hasWord cX10_hasWord 2 (some .boolean)) { frames := 0, cells := 0, slots := 0, locals := 0 } (PB2 [.ref qa900, .int zi901] sz G cy ev (va_pl Ls (cellOf cy K ln hp0))) (QBi (S := (Nat → Nat → Value)) (fun (r : Int32) (u : (Nat → Nat → Value)) => Ok K u ∧ Fr [] K hp0 u ∧ ((0 : Int) ≤ r.toInt ∧ r.toInt ≤ 1)) G (fun u => va_pl Ls (cellOf cy K ln u)) (va_A (va_pl Ls (cellOf cy K ln hp0)) sz)) 0 0 (va_A (va_pl Ls (cellOf cy K ln hp0)) sz) := by
  refine met_of2 (y := yX10_hasWord) (L := 2) (av := [.ref qa900, .int zi901]) (Qc := fun A => QBi (S := (Nat → Nat → Value)) (fun (r : Int32) (u : (Nat → Nat → Value)) => Ok K u ∧ Fr [] K hp0 u ∧ ((0 : Int) ≤ r.toInt ∧ r.toInt ≤ 1)) G (fun u => va_pl Ls (cellOf cy K ln u)) A) (plainFor_of_name (by decide)) (Nat.le_of_ble_eq_true rfl) ?_
  intro p e s m below meth c hsz hx hb hr hml hown hT hlocks hin hK A hA hE hw hS ls hl
  have hw : PW G cy K ln Ls A hp0 s.heap := hw
  have hown : s.vm.findClass "LieClock$Told" = some m.cls := hown
  have hl : lv_has ls 2 [(0, .ref qa900), (1, .int zi901)] := hl
  obtain ⟨Q, hQ⟩ : ∃ Q : State → Prop, Q = MQ below (QBi (S := (Nat → Nat → Value)) (fun (r : Int32) (u : (Nat → Nat → Value)) => Ok K u ∧ Fr [] K hp0 u ∧ ((0 : Int) ≤ r.toInt ∧ r.toInt ≤ 1)) G (fun u => va_pl Ls (cellOf cy K ln u)) A) ([.ref qa900, .int zi901] : List Value).toArray s 0 0 A := ⟨_, rfl⟩
  rw [← hQ]
  refine lv_iload_n hx hb dX10_hasWord_0 rfl (lv_at hl 1 rfl) ?_
  have jn12 : ∀ (zi10 : Int32) (H : Heap) (locs : List Loc) (ls : Array Slot), ((0 : Int) ≤ zi10.toInt ∧ zi10.toInt ≤ 1) → lv_has ls 2 [] → PW G cy K ln Ls A hp0 H → va_S A s.heap H locs → W p l e ({ frames := 0, cells := 0, slots := 0, locals := 0 } : Room) s m ([.ref qa900, .int zi901] : List Value).toArray below meth c H locs 0 0 Q (F0 m 17 ls [.int zi10]) := by
    intro zi10 H locs ls bd11 hl hw hS
    rw [hQ]
    exact kz_i hx hb hr hlocks hS (nz_n bd11 (by decide) (by decide)) hp0 hw ⟨ok0, (Fr.rf), (b_wid2 bd11 (by decide) (by decide))⟩ (Nat.le_of_ble_eq_true rfl) (Nat.le_of_ble_eq_true rfl) dX10_hasWord_17
  refine lv_if_lt (tgt := 16) hx hb dX10_hasWord_1 (by decide) (fun cn1 => ?_) (fun cn1 => ?_)
  · skip
    have bd13 : (-2147483648 : Int) ≤ zi901.toInt ∧ zi901.toInt ≤ -1 := r_lt_x cn1 (b_all zi901) bc_0 (by decide) (by decide)
    refine lv_iconst (v := 0) hx hb dX10_hasWord_16 (by decide) ?_
    exact jn12 0 _ _ ls (b_wid2 bc_0 (by decide) (by decide)) (lv_sub hl [] rfl) hw hS
  · skip
    have bd14 : (0 : Int) ≤ zi901.toInt ∧ zi901.toInt ≤ 2147483647 := r_le_y (Int32.not_lt.mp cn1) bc_0 (b_all zi901) (by decide) (by decide)
    refine lv_iload_n hx hb dX10_hasWord_4 rfl (lv_at hl 1 rfl) ?_
    refine lv_aload_n hx hb dX10_hasWord_5 rfl (lv_at hl 0 rfl) ?_
    obtain ⟨zi16, eq15, bd17⟩ := rd_11004 ok0 kd900
    refine p_get (ci := 10) (v := .int zi16) (C := RX10) (T := TX10) (N := 20) hx hb hT iw_X10 hown hK hw hW kd900 (by decide) rfl rfl 4 (by decide) eq15 (hT _ tb_198) (fun _ h9 => h9) dX10_hasWord_6 ?_
    refine lv_icmp_ge (tgt := 16) hx hb dX10_hasWord_9 (by decide) (fun cn18 => ?_) (fun cn18 => ?_)
    · skip
      refine lv_iconst (v := 0) hx hb dX10_hasWord_16 (by decide) ?_
      exact jn12 0 _ _ ls (b_wid2 bc_0 (by decide) (by decide)) (lv_sub hl [] rfl) hw hS
    · skip
      have bd19 : (0 : Int) ≤ zi901.toInt ∧ zi901.toInt ≤ 15 := r_lt_x (Int32.not_le.mp cn18) bd14 bd17 (by decide) (by decide)
      have bd20 : (1 : Int) ≤ zi16.toInt ∧ zi16.toInt ≤ 16 := r_lt_y (Int32.not_le.mp cn18) bd14 bd17 (by decide) (by decide)
      refine lv_iconst (v := 1) hx hb dX10_hasWord_12 (by decide) ?_
      refine lv_goto (tgt := 17) hx hb dX10_hasWord_13 (by decide) ?_
      exact jn12 1 _ _ ls (b_wid2 bc_1 (by decide) (by decide)) (lv_sub hl [] rfl) hw hS

set_option maxRecDepth 100000 in
set_option maxHeartbeats 4000000 in
theorem cX10_hasCase_0 (l : Launch) (G : va_G) (cy : Nat → ClassId) (ev : Ew) (K ln : Nat → Nat) (Ls : List Nat) (hW : SW K ln Ls) (sz : Nat) (hp0 : Nat → Nat → Value) (ok0 : Ok K hp0) (qa900 : Nat) (zi901 : Int32) (kd900 : K qa900 = 11) : Met l yX10_hasCase (WS yX10_hasCase cX10_hasCase 2 (some .boolean)) { frames := 0, cells := 0, slots := 0, locals := 0 } (PB2 [.ref qa900, .int zi901] sz G cy ev (va_pl Ls (cellOf cy K ln hp0))) (QBi (S := (Nat → Nat → Value)) (fun (r : Int32) (u : (Nat → Nat → Value)) => Ok K u ∧ Fr [] K hp0 u ∧ ((0 : Int) ≤ r.toInt ∧ r.toInt ≤ 1)) G (fun u => va_pl Ls (cellOf cy K ln u)) (va_A (va_pl Ls (cellOf cy K ln hp0)) sz)) 0 0 (va_A (va_pl Ls (cellOf cy K ln hp0)) sz) := by
  refine met_of2 (y := yX10_hasCase) (L := 2) (av := [.ref qa900, .int zi901]) (Qc := fun A => QBi (S := (Nat → Nat → Value)) (fun (r : Int32) (u : (Nat → Nat → Value)) => Ok K u ∧ Fr [] K hp0 u ∧ ((0 : Int) ≤ r.toInt ∧ r.toInt ≤ 1)) G (fun u => va_pl Ls (cellOf cy K ln u)) A) (plainFor_of_name (by decide)) (Nat.le_of_ble_eq_true rfl) ?_
  intro p e s m below meth c hsz hx hb hr hml hown hT hlocks hin hK A hA hE hw hS ls hl
  have hw : PW G cy K ln Ls A hp0 s.heap := hw
  have hown : s.vm.findClass "LieClock$Told" = some m.cls := hown
  have hl : lv_has ls 2 [(0, .ref qa900), (1, .int zi901)] := hl
  obtain ⟨Q, hQ⟩ : ∃ Q : State → Prop, Q = MQ below (QBi (S := (Nat → Nat → Value)) (fun (r : Int32) (u : (Nat → Nat → Value)) => Ok K u ∧ Fr [] K hp0 u ∧ ((0 : Int) ≤ r.toInt ∧ r.toInt ≤ 1)) G (fun u => va_pl Ls (cellOf cy K ln u)) A) ([.ref qa900, .int zi901] : List Value).toArray s 0 0 A := ⟨_, rfl⟩
  rw [← hQ]
  refine lv_iload_n hx hb dX10_hasCase_0 rfl (lv_at hl 1 rfl) ?_
  have jn12 : ∀ (zi10 : Int32) (H : Heap) (locs : List Loc) (ls : Array Slot), ((0 : Int) ≤ zi10.toInt ∧ zi10.toInt ≤ 1) → lv_has ls 2 [] → PW G cy K ln Ls A hp0 H → va_S A s.heap H locs → W p l e ({ frames := 0, cells := 0, slots := 0, locals := 0 } : Room) s m ([.ref qa900, .int zi901] : List Value).toArray below meth c H locs 0 0 Q (F0 m 17 ls [.int zi10]) := by
    intro zi10 H locs ls bd11 hl hw hS
    rw [hQ]
    exact kz_i hx hb hr hlocks hS (nz_n bd11 (by decide) (by decide)) hp0 hw ⟨ok0, (Fr.rf), (b_wid2 bd11 (by decide) (by decide))⟩ (Nat.le_of_ble_eq_true rfl) (Nat.le_of_ble_eq_true rfl) dX10_hasCase_17
  refine lv_if_lt (tgt := 16) hx hb dX10_hasCase_1 (by decide) (fun cn1 => ?_) (fun cn1 => ?_)
  · skip
    have bd13 : (-2147483648 : Int) ≤ zi901.toInt ∧ zi901.toInt ≤ -1 := r_lt_x cn1 (b_all zi901) bc_0 (by decide) (by decide)
    refine lv_iconst (v := 0) hx hb dX10_hasCase_16 (by decide) ?_
    exact jn12 0 _ _ ls (b_wid2 bc_0 (by decide) (by decide)) (lv_sub hl [] rfl) hw hS
  · skip
    have bd14 : (0 : Int) ≤ zi901.toInt ∧ zi901.toInt ≤ 2147483647 := r_le_y (Int32.not_lt.mp cn1) bc_0 (b_all zi901) (by decide) (by decide)
    refine lv_iload_n hx hb dX10_hasCase_4 rfl (lv_at hl 1 rfl) ?_
    refine lv_aload_n hx hb dX10_hasCase_5 rfl (lv_at hl 0 rfl) ?_
    obtain ⟨zi16, eq15, bd17⟩ := rd_11007 ok0 kd900
    refine p_get (ci := 10) (v := .int zi16) (C := RX10) (T := TX10) (N := 20) hx hb hT iw_X10 hown hK hw hW kd900 (by decide) rfl rfl 7 (by decide) eq15 (hT _ tb_212) (fun _ h9 => h9) dX10_hasCase_6 ?_
    refine lv_icmp_ge (tgt := 16) hx hb dX10_hasCase_9 (by decide) (fun cn18 => ?_) (fun cn18 => ?_)
    · skip
      refine lv_iconst (v := 0) hx hb dX10_hasCase_16 (by decide) ?_
      exact jn12 0 _ _ ls (b_wid2 bc_0 (by decide) (by decide)) (lv_sub hl [] rfl) hw hS
    · skip
      have bd19 : (0 : Int) ≤ zi901.toInt ∧ zi901.toInt ≤ 7 := r_lt_x (Int32.not_le.mp cn18) bd14 bd17 (by decide) (by decide)
      have bd20 : (1 : Int) ≤ zi16.toInt ∧ zi16.toInt ≤ 8 := r_lt_y (Int32.not_le.mp cn18) bd14 bd17 (by decide) (by decide)
      refine lv_iconst (v := 1) hx hb dX10_hasCase_12 (by decide) ?_
      refine lv_goto (tgt := 17) hx hb dX10_hasCase_13 (by decide) ?_
      exact jn12 1 _ _ ls (b_wid2 bc_1 (by decide) (by decide)) (lv_sub hl [] rfl) hw hS

set_option maxRecDepth 100000 in
set_option maxHeartbeats 4000000 in
theorem cX10_hasSet_0 (l : Launch) (G : va_G) (cy : Nat → ClassId) (ev : Ew) (K ln : Nat → Nat) (Ls : List Nat) (hW : SW K ln Ls) (sz : Nat) (hp0 : Nat → Nat → Value) (ok0 : Ok K hp0) (qa900 : Nat) (zi901 : Int32) (kd900 : K qa900 = 11) : Met l yX10_hasSet (WS yX10_hasSet cX10_hasSet 2 (some .boolean)) { frames := 0, cells := 0, slots := 0, locals := 0 } (PB2 [.ref qa900, .int zi901] sz G cy ev (va_pl Ls (cellOf cy K ln hp0))) (QBi (S := (Nat → Nat → Value)) (fun (r : Int32) (u : (Nat → Nat → Value)) => Ok K u ∧ Fr [] K hp0 u ∧ ((0 : Int) ≤ r.toInt ∧ r.toInt ≤ 1)) G (fun u => va_pl Ls (cellOf cy K ln u)) (va_A (va_pl Ls (cellOf cy K ln hp0)) sz)) 0 0 (va_A (va_pl Ls (cellOf cy K ln hp0)) sz) := by
  refine met_of2 (y := yX10_hasSet) (L := 2) (av := [.ref qa900, .int zi901]) (Qc := fun A => QBi (S := (Nat → Nat → Value)) (fun (r : Int32) (u : (Nat → Nat → Value)) => Ok K u ∧ Fr [] K hp0 u ∧ ((0 : Int) ≤ r.toInt ∧ r.toInt ≤ 1)) G (fun u => va_pl Ls (cellOf cy K ln u)) A) (plainFor_of_name (by decide)) (Nat.le_of_ble_eq_true rfl) ?_
  intro p e s m below meth c hsz hx hb hr hml hown hT hlocks hin hK A hA hE hw hS ls hl
  have hw : PW G cy K ln Ls A hp0 s.heap := hw
  have hown : s.vm.findClass "LieClock$Told" = some m.cls := hown
  have hl : lv_has ls 2 [(0, .ref qa900), (1, .int zi901)] := hl
  obtain ⟨Q, hQ⟩ : ∃ Q : State → Prop, Q = MQ below (QBi (S := (Nat → Nat → Value)) (fun (r : Int32) (u : (Nat → Nat → Value)) => Ok K u ∧ Fr [] K hp0 u ∧ ((0 : Int) ≤ r.toInt ∧ r.toInt ≤ 1)) G (fun u => va_pl Ls (cellOf cy K ln u)) A) ([.ref qa900, .int zi901] : List Value).toArray s 0 0 A := ⟨_, rfl⟩
  rw [← hQ]
  refine lv_iload_n hx hb dX10_hasSet_0 rfl (lv_at hl 1 rfl) ?_
  have jn13 : ∀ (zi11 : Int32) (H : Heap) (locs : List Loc) (ls : Array Slot), ((0 : Int) ≤ zi11.toInt ∧ zi11.toInt ≤ 1) → lv_has ls 2 [] → PW G cy K ln Ls A hp0 H → va_S A s.heap H locs → W p l e ({ frames := 0, cells := 0, slots := 0, locals := 0 } : Room) s m ([.ref qa900, .int zi901] : List Value).toArray below meth c H locs 0 0 Q (F0 m 18 ls [.int zi11]) := by
    intro zi11 H locs ls bd12 hl hw hS
    rw [hQ]
    exact kz_i hx hb hr hlocks hS (nz_n bd12 (by decide) (by decide)) hp0 hw ⟨ok0, (Fr.rf), (b_wid2 bd12 (by decide) (by decide))⟩ (Nat.le_of_ble_eq_true rfl) (Nat.le_of_ble_eq_true rfl) dX10_hasSet_18
  refine lv_if_lt (tgt := 17) hx hb dX10_hasSet_1 (by decide) (fun cn1 => ?_) (fun cn1 => ?_)
  · skip
    have bd14 : (-2147483648 : Int) ≤ zi901.toInt ∧ zi901.toInt ≤ -1 := r_lt_x cn1 (b_all zi901) bc_0 (by decide) (by decide)
    refine lv_iconst (v := 0) hx hb dX10_hasSet_17 (by decide) ?_
    exact jn13 0 _ _ ls (b_wid2 bc_0 (by decide) (by decide)) (lv_sub hl [] rfl) hw hS
  · skip
    have bd15 : (0 : Int) ≤ zi901.toInt ∧ zi901.toInt ≤ 2147483647 := r_le_y (Int32.not_lt.mp cn1) bc_0 (b_all zi901) (by decide) (by decide)
    refine lv_iload_n hx hb dX10_hasSet_4 rfl (lv_at hl 1 rfl) ?_
    refine lv_aload_n hx hb dX10_hasSet_5 rfl (lv_at hl 0 rfl) ?_
    obtain ⟨zi17, eq16, bd18⟩ := rd_11004 ok0 kd900
    refine p_get (ci := 10) (v := .int zi17) (C := RX10) (T := TX10) (N := 20) hx hb hT iw_X10 hown hK hw hW kd900 (by decide) rfl rfl 4 (by decide) eq16 (hT _ tb_198) (fun _ h9 => h9) dX10_hasSet_6 ?_
    refine lv_ishr hx hb dX10_hasSet_9 (lv_topi (fun zi19 ea20 => ?_))
    refine lv_if_ne (tgt := 17) hx hb dX10_hasSet_10 (by decide) (fun cn21 => ?_) (fun cn21 => ?_)
    · skip
      refine lv_iconst (v := 0) hx hb dX10_hasSet_17 (by decide) ?_
      exact jn13 0 _ _ ls (b_wid2 bc_0 (by decide) (by decide)) (lv_sub hl [] rfl) hw hS
    · skip
      have bd22 : (0 : Int) ≤ zi19.toInt ∧ zi19.toInt ≤ 0 := r_eq_x cn21 (b_all zi19) bc_0 (by decide) (by decide)
      refine lv_iconst (v := 1) hx hb dX10_hasSet_13 (by decide) ?_
      refine lv_goto (tgt := 18) hx hb dX10_hasSet_14 (by decide) ?_
      exact jn13 1 _ _ ls (b_wid2 bc_1 (by decide) (by decide)) (lv_sub hl [] rfl) hw hS

set_option maxRecDepth 100000 in
set_option maxHeartbeats 4000000 in
theorem cX10_together_0 (l : Launch) (G : va_G) (cy : Nat → ClassId) (ev : Ew) (K ln : Nat → Nat) (Ls : List Nat) (hW : SW K ln Ls) (sz : Nat) (hp0 : Nat → Nat → Value) (ok0 : Ok K hp0) (qa900 : Nat) (zi901 : Int32) (kd900 : K qa900 = 11) : Met l yX10_together (WS yX10_together cX10_together 5 (some .long)) { frames := 0, cells := 0, slots := 0, locals := 0 } (PB2 [.ref qa900, .int zi901] sz G cy ev (va_pl Ls (cellOf cy K ln hp0))) (QBl (S := (Nat → Nat → Value)) (fun (r : Int64) (u : (Nat → Nat → Value)) => Ok K u ∧ Fr [] K hp0 u) G (fun u => va_pl Ls (cellOf cy K ln u)) (va_A (va_pl Ls (cellOf cy K ln hp0)) sz)) 0 0 (va_A (va_pl Ls (cellOf cy K ln hp0)) sz) := by
  refine met_of2 (y := yX10_together) (L := 5) (av := [.ref qa900, .int zi901]) (Qc := fun A => QBl (S := (Nat → Nat → Value)) (fun (r : Int64) (u : (Nat → Nat → Value)) => Ok K u ∧ Fr [] K hp0 u) G (fun u => va_pl Ls (cellOf cy K ln u)) A) (plainFor_of_name (by decide)) (Nat.le_of_ble_eq_true rfl) ?_
  intro p e s m below meth c hsz hx hb hr hml hown hT hlocks hin hK A hA hE hw hS ls hl
  have hw : PW G cy K ln Ls A hp0 s.heap := hw
  have hown : s.vm.findClass "LieClock$Told" = some m.cls := hown
  have hl : lv_has ls 5 [(0, .ref qa900), (1, .int zi901)] := hl
  obtain ⟨Q, hQ⟩ : ∃ Q : State → Prop, Q = MQ below (QBl (S := (Nat → Nat → Value)) (fun (r : Int64) (u : (Nat → Nat → Value)) => Ok K u ∧ Fr [] K hp0 u) G (fun u => va_pl Ls (cellOf cy K ln u)) A) ([.ref qa900, .int zi901] : List Value).toArray s 0 0 A := ⟨_, rfl⟩
  rw [← hQ]
  refine lv_ldc2 (v := (-1)) hx hb hown (hT _ tb_397) dX10_together_0 ?_
  refine lv_lstore_n (lv' := [(2, .long (-1)), (0, .ref qa900), (1, .int zi901)]) hx hb dX10_together_3 rfl hl (by decide) rfl (fun ls hl => ?_)
  refine lv_iconst (v := 0) hx hb dX10_together_4 (by decide) ?_
  refine lv_istore (lv' := [(4, .int 0), (2, .long (-1)), (0, .ref qa900), (1, .int zi901)]) hx hb dX10_together_5 hl (by decide) rfl (fun ls hl => ?_)
  have lp258 : ∀ (n256 : Nat) (wl183 : Int64) (zi184 : Int32) (H : Heap) (locs : List Loc) (ls : Array Slot), 16 - zi184.toInt < (n256 : Int) → ((0 : Int) ≤ zi184.toInt ∧ zi184.toInt ≤ 16) → lv_has ls 5 [(0, .ref qa900), (1, .int zi901), (2, .long wl183), (4, .int zi184)] → PW G cy K ln Ls A hp0 H → va_S A s.heap H locs → W p l e ({ frames := 0, cells := 0, slots := 0, locals := 0 } : Room) s m ([.ref qa900, .int zi901] : List Value).toArray below meth c H locs 0 0 Q (F0 m 7 ls []) := by
    intro n256
    induction n256 with
    | zero =>
      intro wl183 zi184 H locs ls hm259 bd185 hl hw hS
      exact absurd hm259 (by have := bd185; omega)
    | succ n256 ih257 =>
      intro wl183 zi184 H locs ls hm259 bd185 hl hw hS
      refine lv_iload hx hb dX10_together_7 (lv_at hl 3 rfl) ?_
      refine lv_aload_n hx hb dX10_together_9 rfl (lv_at hl 0 rfl) ?_
      obtain ⟨zi261, eq260, bd262⟩ := rd_11004 ok0 kd900
      refine p_get (ci := 10) (v := .int zi261) (C := RX10) (T := TX10) (N := 20) hx hb hT iw_X10 hown hK hw hW kd900 (by decide) rfl rfl 4 (by decide) eq260 (hT _ tb_198) (fun _ h9 => h9) dX10_together_10 ?_
      refine lv_icmp_ge (tgt := 41) hx hb dX10_together_13 (by decide) (fun cn263 => ?_) (fun cn263 => ?_)
      · skip
        refine lv_lload_n hx hb dX10_together_41 rfl (lv_at hl 2 rfl) ?_
        rw [hQ]
        exact kz_l hx hb hr hlocks hS hp0 hw ⟨ok0, (Fr.rf)⟩ (Nat.le_of_ble_eq_true rfl) (Nat.le_of_ble_eq_true rfl) dX10_together_42
      · skip
        have bd295 : (0 : Int) ≤ zi184.toInt ∧ zi184.toInt ≤ 15 := r_lt_x (Int32.not_le.mp cn263) bd185 bd262 (by decide) (by decide)
        have bd296 : (1 : Int) ≤ zi261.toInt ∧ zi261.toInt ≤ 16 := r_lt_y (Int32.not_le.mp cn263) bd185 bd262 (by decide) (by decide)
        refine lv_iload_n hx hb dX10_together_16 rfl (lv_at hl 1 rfl) ?_
        refine lv_iload hx hb dX10_together_17 (lv_at hl 3 rfl) ?_
        refine lv_ishr hx hb dX10_together_19 (lv_topi (fun zi297 ea298 => ?_))
        refine lv_iconst (v := 1) hx hb dX10_together_20 (by decide) ?_
        refine lv_iand hx hb dX10_together_21 (lv_topi (fun zi299 ea300 => ?_))
        have bd301 : (0 : Int) ≤ zi299.toInt ∧ zi299.toInt ≤ 1 := b_and_r ea300 bc_1 (by decide) (by decide) (by decide)
        have jn312 : ∀ (wl311 : Int64) (H : Heap) (locs : List Loc) (ls : Array Slot), lv_has ls 5 [(0, .ref qa900), (1, .int zi901), (2, .long wl311), (4, .int zi184)] → PW G cy K ln Ls A hp0 H → va_S A s.heap H locs → W p l e ({ frames := 0, cells := 0, slots := 0, locals := 0 } : Room) s m ([.ref qa900, .int zi901] : List Value).toArray below meth c H locs 0 0 Q (F0 m 35 ls []) := by
          intro wl311 H locs ls hl hw hS
          obtain ⟨zi313, ea314⟩ : ∃ z : Int32, z = zi184 + 1 := ⟨_, rfl⟩
          have bd315 : (1 : Int) ≤ zi313.toInt ∧ zi313.toInt ≤ 16 := b_iadd ea314 bd295 bc_1 (by decide) (by decide) (by decide) (by decide)
          have qe316 : zi313.toInt = (zi184 : Int32).toInt + (1 : Int32).toInt := e_iadd ea314 bd295 bc_1 (by decide) (by decide)
          have qe317 : zi313.toInt = zi184.toInt + 1 := by have ha : (1 : Int32).toInt = 1 := (by decide); rw [ha] at qe316; exact qe316
          refine lv_iinc (v := zi313) (lv' := [(4, .int zi313), (0, .ref qa900), (1, .int zi901), (2, .long wl311)]) hx hb dX10_together_35 hl (k := 3) rfl ea314.symm (by decide) rfl (fun ls hl => ?_)
          refine lv_goto (tgt := 7) hx hb dX10_together_38 (by decide) ?_
          exact ih257 wl311 zi313 _ _ ls (by have := hm259; have := qe317; omega) (b_wid2 bd315 (by decide) (by decide)) (lv_sub hl [1, 2, 3, 0] rfl) hw hS
        refine lv_if_eq (tgt := 35) hx hb dX10_together_22 (by decide) (fun cn302 => ?_) (fun cn302 => ?_)
        · skip
          have bd318 : (0 : Int) ≤ zi299.toInt ∧ zi299.toInt ≤ 0 := r_eq_x cn302 bd301 bc_0 (by decide) (by decide)
          exact jn312 wl183 _ _ ls (lv_sub hl [0, 1, 2, 3] rfl) hw hS
        · skip
          have bd319 : (1 : Int) ≤ zi299.toInt ∧ zi299.toInt ≤ 1 := r_ne_lo cn302 bd301 (toi bc_0) (by decide) (by decide)
          refine lv_lload_n hx hb dX10_together_25 rfl (lv_at hl 2 rfl) ?_
          refine lv_aload_n hx hb dX10_together_26 rfl (lv_at hl 0 rfl) ?_
          obtain ⟨qa321, eq320, kd322⟩ := rd_11014 ok0 kd900
          refine p_get (ci := 10) (v := .ref qa321) (C := RX10) (T := TX10) (N := 20) hx hb hT iw_X10 hown hK hw hW kd900 (by decide) rfl rfl 14 (by decide) eq320 (hT _ tb_230) (fun _ h9 => h9) dX10_together_27 ?_
          refine lv_iload hx hb dX10_together_30 (lv_at hl 3 rfl) ?_
          obtain ⟨wl324, eq323⟩ := rd_52000 ok0 kd322 ((zi184 : Int32).toNatClampNeg)
          refine p_lald (v := wl324) hx hb hK hw hW kd322 (by decide) rfl (hW.len kd322 (n := 16) rfl (by decide)) (vp_b bd295 (by decide) (by decide)) eq323 dX10_together_32 ?_
          refine lv_land hx hb dX10_together_33 (lv_topl (fun wl325 _ => ?_))
          refine lv_lstore_n (lv' := [(2, .long wl325), (0, .ref qa900), (1, .int zi901), (4, .int zi184)]) hx hb dX10_together_34 rfl hl (by decide) rfl (fun ls hl => ?_)
          exact jn312 wl325 _ _ ls (lv_sub hl [1, 2, 0, 3] rfl) hw hS
  exact lp258 _ ((-1)) 0 _ _ ls (lp_in _) (b_wid2 bc_0 (by decide) (by decide)) (lv_sub hl [2, 3, 1, 0] rfl) hw hS

set_option maxRecDepth 100000 in
set_option maxHeartbeats 4000000 in
theorem cX10_asItIs_0 (l : Launch) (G : va_G) (cy : Nat → ClassId) (ev : Ew) (K ln : Nat → Nat) (Ls : List Nat) (hW : SW K ln Ls) (sz : Nat) (hp0 : Nat → Nat → Value) (ok0 : Ok K hp0) (qa900 : Nat) (zi901 : Int32) (kd900 : K qa900 = 11) : Met l yX10_asItIs (WS yX10_asItIs cX10_asItIs 2 (some .long)) { frames := 0, cells := 0, slots := 0, locals := 0 } (PB2 [.ref qa900, .int zi901] sz G cy ev (va_pl Ls (cellOf cy K ln hp0))) (QBl (S := (Nat → Nat → Value)) (fun (r : Int64) (u : (Nat → Nat → Value)) => Ok K u ∧ Fr [] K hp0 u) G (fun u => va_pl Ls (cellOf cy K ln u)) (va_A (va_pl Ls (cellOf cy K ln hp0)) sz)) 0 0 (va_A (va_pl Ls (cellOf cy K ln hp0)) sz) := by
  refine met_of2 (y := yX10_asItIs) (L := 2) (av := [.ref qa900, .int zi901]) (Qc := fun A => QBl (S := (Nat → Nat → Value)) (fun (r : Int64) (u : (Nat → Nat → Value)) => Ok K u ∧ Fr [] K hp0 u) G (fun u => va_pl Ls (cellOf cy K ln u)) A) (plainFor_of_name (by decide)) (Nat.le_of_ble_eq_true rfl) ?_
  intro p e s m below meth c hsz hx hb hr hml hown hT hlocks hin hK A hA hE hw hS ls hl
  have hw : PW G cy K ln Ls A hp0 s.heap := hw
  have hown : s.vm.findClass "LieClock$Told" = some m.cls := hown
  have hl : lv_has ls 2 [(0, .ref qa900), (1, .int zi901)] := hl
  obtain ⟨Q, hQ⟩ : ∃ Q : State → Prop, Q = MQ below (QBl (S := (Nat → Nat → Value)) (fun (r : Int64) (u : (Nat → Nat → Value)) => Ok K u ∧ Fr [] K hp0 u) G (fun u => va_pl Ls (cellOf cy K ln u)) A) ([.ref qa900, .int zi901] : List Value).toArray s 0 0 A := ⟨_, rfl⟩
  rw [← hQ]
  refine lv_iload_n hx hb dX10_asItIs_0 rfl (lv_at hl 1 rfl) ?_
  refine lv_if_lt (tgt := 10) hx hb dX10_asItIs_1 (by decide) (fun cn1 => ?_) (fun cn1 => ?_)
  · skip
    have bd2 : (-2147483648 : Int) ≤ zi901.toInt ∧ zi901.toInt ≤ -1 := r_lt_x cn1 (b_all zi901) bc_0 (by decide) (by decide)
    refine lv_aload_n hx hb dX10_asItIs_10 rfl (lv_at hl 0 rfl) ?_
    obtain ⟨wl4, eq3⟩ := rd_11009 ok0 kd900
    refine p_get (ci := 10) (v := .long wl4) (C := RX10) (T := TX10) (N := 20) hx hb hT iw_X10 hown hK hw hW kd900 (by decide) rfl rfl 9 (by decide) eq3 (hT _ tb_220) (fun _ h9 => h9) dX10_asItIs_11 ?_
    rw [hQ]
    exact kz_l hx hb hr hlocks hS hp0 hw ⟨ok0, (Fr.rf)⟩ (Nat.le_of_ble_eq_true rfl) (Nat.le_of_ble_eq_true rfl) dX10_asItIs_14
  · skip
    have bd5 : (0 : Int) ≤ zi901.toInt ∧ zi901.toInt ≤ 2147483647 := r_le_y (Int32.not_lt.mp cn1) bc_0 (b_all zi901) (by decide) (by decide)
    refine lv_iload_n hx hb dX10_asItIs_4 rfl (lv_at hl 1 rfl) ?_
    refine lv_bipush (v := 6) hx hb dX10_asItIs_5 (by decide) ?_
    refine lv_icmp_lt (tgt := 15) hx hb dX10_asItIs_7 (by decide) (fun cn6 => ?_) (fun cn6 => ?_)
    · skip
      have bd7 : (0 : Int) ≤ zi901.toInt ∧ zi901.toInt ≤ 5 := r_lt_x cn6 bd5 bc_6 (by decide) (by decide)
      refine lv_aload_n hx hb dX10_asItIs_15 rfl (lv_at hl 0 rfl) ?_
      obtain ⟨zi9, eq8⟩ := rd_11001 ok0 kd900
      refine p_get (ci := 10) (v := .int zi9) (C := RX10) (T := TX10) (N := 20) hx hb hT iw_X10 hown hK hw hW kd900 (by decide) rfl rfl 1 (by decide) eq8 (hT _ tb_188) (fun _ h9 => h9) dX10_asItIs_16 ?_
      refine lv_iload_n hx hb dX10_asItIs_19 rfl (lv_at hl 1 rfl) ?_
      refine lv_ishr hx hb dX10_asItIs_20 (lv_topi (fun zi10 ea11 => ?_))
      refine lv_iconst (v := 1) hx hb dX10_asItIs_21 (by decide) ?_
      refine lv_iand hx hb dX10_asItIs_22 (lv_topi (fun zi12 ea13 => ?_))
      have bd14 : (0 : Int) ≤ zi12.toInt ∧ zi12.toInt ≤ 1 := b_and_r ea13 bc_1 (by decide) (by decide) (by decide)
      have jn22 : ∀ (wl21 : Int64) (H : Heap) (locs : List Loc) (ls : Array Slot), lv_has ls 2 [] → PW G cy K ln Ls A hp0 H → va_S A s.heap H locs → W p l e ({ frames := 0, cells := 0, slots := 0, locals := 0 } : Room) s m ([.ref qa900, .int zi901] : List Value).toArray below meth c H locs 0 0 Q (F0 m 43 ls [.long wl21]) := by
        intro wl21 H locs ls hl hw hS
        rw [hQ]
        exact kz_l hx hb hr hlocks hS hp0 hw ⟨ok0, (Fr.rf)⟩ (Nat.le_of_ble_eq_true rfl) (Nat.le_of_ble_eq_true rfl) dX10_asItIs_43
      refine lv_if_eq (tgt := 34) hx hb dX10_asItIs_23 (by decide) (fun cn15 => ?_) (fun cn15 => ?_)
      · skip
        have bd23 : (0 : Int) ≤ zi12.toInt ∧ zi12.toInt ≤ 0 := r_eq_x cn15 bd14 bc_0 (by decide) (by decide)
        refine va_getsN hx hb hE.2.1 hS hown (hK.fl nw_375) (fun _ h9 => h9) dX10_asItIs_34 ?_
        refine lv_iload_n hx hb dX10_asItIs_37 rfl (lv_at hl 1 rfl) ?_
        obtain ⟨wl24, _⟩ : ∃ w : Int64, w = ev.2.2 (zi901 : Int32).toNatClampNeg := ⟨_, rfl⟩
        refine va_tl (v := .long (ev.2.2 (zi901 : Int32).toNatClampNeg)) hx hb hE.2.2 hS (vp_b bd7 (by decide) (by decide)) rfl dX10_asItIs_38 (lv_topl (fun wl24x _ => ?_))
        refine lv_ldc2 (v := (-1)) hx hb hown (hT _ tb_397) dX10_asItIs_39 ?_
        refine lv_lxor hx hb dX10_asItIs_42 (lv_topl (fun wl25 _ => ?_))
        exact jn22 wl25 _ _ ls (lv_sub hl [] rfl) hw hS
      · skip
        have bd26 : (1 : Int) ≤ zi12.toInt ∧ zi12.toInt ≤ 1 := r_ne_lo cn15 bd14 (toi bc_0) (by decide) (by decide)
        refine va_getsN hx hb hE.2.1 hS hown (hK.fl nw_375) (fun _ h9 => h9) dX10_asItIs_26 ?_
        refine lv_iload_n hx hb dX10_asItIs_29 rfl (lv_at hl 1 rfl) ?_
        obtain ⟨wl27, _⟩ : ∃ w : Int64, w = ev.2.2 (zi901 : Int32).toNatClampNeg := ⟨_, rfl⟩
        refine va_tl (v := .long (ev.2.2 (zi901 : Int32).toNatClampNeg)) hx hb hE.2.2 hS (vp_b bd7 (by decide) (by decide)) rfl dX10_asItIs_30 (lv_topl (fun wl27x _ => ?_))
        refine lv_goto (tgt := 43) hx hb dX10_asItIs_31 (by decide) ?_
        exact jn22 wl27x _ _ ls (lv_sub hl [] rfl) hw hS
    · skip
      have bd28 : (6 : Int) ≤ zi901.toInt ∧ zi901.toInt ≤ 2147483647 := r_le_y (Int32.not_lt.mp cn6) bc_6 bd5 (by decide) (by decide)
      refine lv_aload_n hx hb dX10_asItIs_10 rfl (lv_at hl 0 rfl) ?_
      obtain ⟨wl30, eq29⟩ := rd_11009 ok0 kd900
      refine p_get (ci := 10) (v := .long wl30) (C := RX10) (T := TX10) (N := 20) hx hb hT iw_X10 hown hK hw hW kd900 (by decide) rfl rfl 9 (by decide) eq29 (hT _ tb_220) (fun _ h9 => h9) dX10_asItIs_11 ?_
      rw [hQ]
      exact kz_l hx hb hr hlocks hS hp0 hw ⟨ok0, (Fr.rf)⟩ (Nat.le_of_ble_eq_true rfl) (Nat.le_of_ble_eq_true rfl) dX10_asItIs_14

set_option maxRecDepth 100000 in
set_option maxHeartbeats 4000000 in
theorem cX10_liarsBy_0 (l : Launch) (G : va_G) (cy : Nat → ClassId) (ev : Ew) (K ln : Nat → Nat) (Ls : List Nat) (hW : SW K ln Ls) (sz : Nat) (hp0 : Nat → Nat → Value) (ok0 : Ok K hp0) (qa900 : Nat) (zi901 : Int32) (kd900 : K qa900 = 11) : Met l yX10_liarsBy (WS yX10_liarsBy cX10_liarsBy 4 (some .int)) { frames := 0, cells := 0, slots := 0, locals := 0 } (PB2 [.ref qa900, .int zi901] sz G cy ev (va_pl Ls (cellOf cy K ln hp0))) (QBi (S := (Nat → Nat → Value)) (fun (r : Int32) (u : (Nat → Nat → Value)) => Ok K u ∧ Fr [] K hp0 u) G (fun u => va_pl Ls (cellOf cy K ln u)) (va_A (va_pl Ls (cellOf cy K ln hp0)) sz)) 0 0 (va_A (va_pl Ls (cellOf cy K ln hp0)) sz) := by
  refine met_of2 (y := yX10_liarsBy) (L := 4) (av := [.ref qa900, .int zi901]) (Qc := fun A => QBi (S := (Nat → Nat → Value)) (fun (r : Int32) (u : (Nat → Nat → Value)) => Ok K u ∧ Fr [] K hp0 u) G (fun u => va_pl Ls (cellOf cy K ln u)) A) (plainFor_of_name (by decide)) (Nat.le_of_ble_eq_true rfl) ?_
  intro p e s m below meth c hsz hx hb hr hml hown hT hlocks hin hK A hA hE hw hS ls hl
  have hw : PW G cy K ln Ls A hp0 s.heap := hw
  have hown : s.vm.findClass "LieClock$Told" = some m.cls := hown
  have hl : lv_has ls 4 [(0, .ref qa900), (1, .int zi901)] := hl
  obtain ⟨Q, hQ⟩ : ∃ Q : State → Prop, Q = MQ below (QBi (S := (Nat → Nat → Value)) (fun (r : Int32) (u : (Nat → Nat → Value)) => Ok K u ∧ Fr [] K hp0 u) G (fun u => va_pl Ls (cellOf cy K ln u)) A) ([.ref qa900, .int zi901] : List Value).toArray s 0 0 A := ⟨_, rfl⟩
  rw [← hQ]
  refine lv_iconst (v := 0) hx hb dX10_liarsBy_0 (by decide) ?_
  refine lv_istore_n (lv' := [(2, .int 0), (0, .ref qa900), (1, .int zi901)]) hx hb dX10_liarsBy_1 rfl hl (by decide) rfl (fun ls hl => ?_)
  refine lv_iconst (v := 0) hx hb dX10_liarsBy_2 (by decide) ?_
  refine lv_istore_n (lv' := [(3, .int 0), (2, .int 0), (0, .ref qa900), (1, .int zi901)]) hx hb dX10_liarsBy_3 rfl hl (by decide) rfl (fun ls hl => ?_)
  have lp231 : ∀ (n229 : Nat) (zi162 : Int32) (zi163 : Int32) (H : Heap) (locs : List Loc) (ls : Array Slot), 6 - zi163.toInt < (n229 : Int) → ((0 : Int) ≤ zi163.toInt ∧ zi163.toInt ≤ 6) → lv_has ls 4 [(0, .ref qa900), (1, .int zi901), (2, .int zi162), (3, .int zi163)] → PW G cy K ln Ls A hp0 H → va_S A s.heap H locs → W p l e ({ frames := 0, cells := 0, slots := 0, locals := 0 } : Room) s m ([.ref qa900, .int zi901] : List Value).toArray below meth c H locs 0 0 Q (F0 m 4 ls []) := by
    intro n229
    induction n229 with
    | zero =>
      intro zi162 zi163 H locs ls hm232 bd164 hl hw hS
      exact absurd hm232 (by have := bd164; omega)
    | succ n229 ih230 =>
      intro zi162 zi163 H locs ls hm232 bd164 hl hw hS
      refine lv_iload_n hx hb dX10_liarsBy_4 rfl (lv_at hl 3 rfl) ?_
      refine lv_aload_n hx hb dX10_liarsBy_5 rfl (lv_at hl 0 rfl) ?_
      obtain ⟨zi234, eq233, bd235⟩ := rd_11003 ok0 kd900
      refine p_get (ci := 10) (v := .int zi234) (C := RX10) (T := TX10) (N := 20) hx hb hT iw_X10 hown hK hw hW kd900 (by decide) rfl rfl 3 (by decide) eq233 (hT _ tb_192) (fun _ h9 => h9) dX10_liarsBy_6 ?_
      refine lv_icmp_ge (tgt := 39) hx hb dX10_liarsBy_9 (by decide) (fun cn236 => ?_) (fun cn236 => ?_)
      · skip
        refine lv_iload_n hx hb dX10_liarsBy_39 rfl (lv_at hl 2 rfl) ?_
        rw [hQ]
        exact kz_i hx hb hr hlocks hS rfl hp0 hw ⟨ok0, (Fr.rf)⟩ (Nat.le_of_ble_eq_true rfl) (Nat.le_of_ble_eq_true rfl) dX10_liarsBy_40
      · skip
        have bd265 : (0 : Int) ≤ zi163.toInt ∧ zi163.toInt ≤ 5 := r_lt_x (Int32.not_le.mp cn236) bd164 bd235 (by decide) (by decide)
        have bd266 : (1 : Int) ≤ zi234.toInt ∧ zi234.toInt ≤ 6 := r_lt_y (Int32.not_le.mp cn236) bd164 bd235 (by decide) (by decide)
        refine lv_iload_n hx hb dX10_liarsBy_12 rfl (lv_at hl 2 rfl) ?_
        refine lv_aload_n hx hb dX10_liarsBy_13 rfl (lv_at hl 0 rfl) ?_
        obtain ⟨qa268, eq267, kd269⟩ := rd_11012 ok0 kd900
        refine p_get (ci := 10) (v := .ref qa268) (C := RX10) (T := TX10) (N := 20) hx hb hT iw_X10 hown hK hw hW kd900 (by decide) rfl rfl 12 (by decide) eq267 (hT _ tb_224) (fun _ h9 => h9) dX10_liarsBy_14 ?_
        refine lv_iload_n hx hb dX10_liarsBy_17 rfl (lv_at hl 3 rfl) ?_
        obtain ⟨zi271, eq270⟩ := rd_50000 ok0 kd269 ((zi163 : Int32).toNatClampNeg)
        refine p_iald (v := zi271) hx hb hK hw hW kd269 (by decide) rfl (hW.len kd269 (n := 6) rfl (by decide)) (vp_b bd265 (by decide) (by decide)) eq270 dX10_liarsBy_18 ?_
        refine lv_iload_n hx hb dX10_liarsBy_19 rfl (lv_at hl 1 rfl) ?_
        refine lv_iand hx hb dX10_liarsBy_20 (lv_topi (fun zi272 ea273 => ?_))
        have jn281 : ∀ (zi279 : Int32) (H : Heap) (locs : List Loc) (ls : Array Slot), ((0 : Int) ≤ zi279.toInt ∧ zi279.toInt ≤ 32) → lv_has ls 4 [(0, .ref qa900), (1, .int zi901), (3, .int zi163)] → PW G cy K ln Ls A hp0 H → va_S A s.heap H locs → W p l e ({ frames := 0, cells := 0, slots := 0, locals := 0 } : Room) s m ([.ref qa900, .int zi901] : List Value).toArray below meth c H locs 0 0 Q (F0 m 31 ls [.int zi279, .int zi162]) := by
          intro zi279 H locs ls bd280 hl hw hS
          refine lv_ior hx hb dX10_liarsBy_31 (lv_topi (fun zi282 ea283 => ?_))
          refine lv_istore_n (lv' := [(2, .int zi282), (0, .ref qa900), (1, .int zi901), (3, .int zi163)]) hx hb dX10_liarsBy_32 rfl hl (by decide) rfl (fun ls hl => ?_)
          obtain ⟨zi284, ea285⟩ : ∃ z : Int32, z = zi163 + 1 := ⟨_, rfl⟩
          have bd286 : (1 : Int) ≤ zi284.toInt ∧ zi284.toInt ≤ 6 := b_iadd ea285 bd265 bc_1 (by decide) (by decide) (by decide) (by decide)
          have qe287 : zi284.toInt = (zi163 : Int32).toInt + (1 : Int32).toInt := e_iadd ea285 bd265 bc_1 (by decide) (by decide)
          have qe288 : zi284.toInt = zi163.toInt + 1 := by have ha : (1 : Int32).toInt = 1 := (by decide); rw [ha] at qe287; exact qe287
          refine lv_iinc (v := zi284) (lv' := [(3, .int zi284), (2, .int zi282), (0, .ref qa900), (1, .int zi901)]) hx hb dX10_liarsBy_33 hl (k := 3) rfl ea285.symm (by decide) rfl (fun ls hl => ?_)
          refine lv_goto (tgt := 4) hx hb dX10_liarsBy_36 (by decide) ?_
          exact ih230 zi282 zi284 _ _ ls (by have := hm232; have := qe288; omega) (b_wid2 bd286 (by decide) (by decide)) (lv_sub hl [2, 3, 1, 0] rfl) hw hS
        refine lv_if_eq (tgt := 30) hx hb dX10_liarsBy_21 (by decide) (fun cn274 => ?_) (fun cn274 => ?_)
        · skip
          have bd289 : (0 : Int) ≤ zi272.toInt ∧ zi272.toInt ≤ 0 := r_eq_x cn274 (b_all zi272) bc_0 (by decide) (by decide)
          refine lv_iconst (v := 0) hx hb dX10_liarsBy_30 (by decide) ?_
          exact jn281 0 _ _ ls (b_wid2 bc_0 (by decide) (by decide)) (lv_sub hl [0, 1, 3] rfl) hw hS
        · skip
          refine lv_iconst (v := 1) hx hb dX10_liarsBy_24 (by decide) ?_
          refine lv_iload_n hx hb dX10_liarsBy_25 rfl (lv_at hl 3 rfl) ?_
          refine lv_ishl hx hb dX10_liarsBy_26 (lv_topi (fun zi290 ea291 => ?_))
          have bd292 : (1 : Int) ≤ zi290.toInt ∧ zi290.toInt ≤ 32 := b_shl1 5 ea291 bd265 (by decide) (by decide) (by decide) (by decide) (by decide)
          refine lv_goto (tgt := 31) hx hb dX10_liarsBy_27 (by decide) ?_
          exact jn281 zi290 _ _ ls (b_wid2 bd292 (by decide) (by decide)) (lv_sub hl [0, 1, 3] rfl) hw hS
  exact lp231 _ 0 0 _ _ ls (lp_in _) (b_wid2 bc_0 (by decide) (by decide)) (lv_sub hl [2, 3, 1, 0] rfl) hw hS
