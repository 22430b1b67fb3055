set_option maxRecDepth 100000 in
set_option maxHeartbeats 4000000 in
theorem cX12_in_8 (l : Launch) (G : va_G) (cy : Nat → ClassId) (ev : Ew) (K ln : Nat → Nat) (Ls : List Nat) (hW : SW K ln Ls) (sz : Nat) (hp0 : Nat → Nat → Value) (ok0 : Ok K hp0) (zi900 : Int32) (zi901 : Int32) (zi902 : Int32) (bd901 : ((0 : Int) ≤ zi901.toInt ∧ zi901.toInt ≤ 0)) (bd902 : ((0 : Int) ≤ zi902.toInt ∧ zi902.toInt ≤ 5)) : Met l yX12_in (WS yX12_in cX12_in 3 (some .boolean)) { frames := 0, cells := 0, slots := 0, locals := 0 } (PB2 [.int zi900, .int zi901, .int zi902] sz G cy ev (va_pl Ls (cellOf cy K ln hp0))) (QBi (S := (Nat → Nat → Value)) (fun (r : Int32) (u : (Nat → Nat → Value)) => Ok K u ∧ Fr [] K hp0 u ∧ ((0 : Int) ≤ r.toInt ∧ r.toInt ≤ 1) ∧ (r = 1 → ((0 : Int) ≤ zi900.toInt ∧ zi900.toInt ≤ 5))) G (fun u => va_pl Ls (cellOf cy K ln u)) (va_A (va_pl Ls (cellOf cy K ln hp0)) sz)) 0 0 (va_A (va_pl Ls (cellOf cy K ln hp0)) sz) := by
  refine met_of2 (y := yX12_in) (L := 3) (av := [.int zi900, .int zi901, .int zi902]) (Qc := fun A => QBi (S := (Nat → Nat → Value)) (fun (r : Int32) (u : (Nat → Nat → Value)) => Ok K u ∧ Fr [] K hp0 u ∧ ((0 : Int) ≤ r.toInt ∧ r.toInt ≤ 1) ∧ (r = 1 → ((0 : Int) ≤ zi900.toInt ∧ zi900.toInt ≤ 5))) G (fun u => va_pl Ls (cellOf cy K ln u)) A) (plainFor_of_name (by decide)) (Nat.le_of_ble_eq_true rfl) ?_
  intro p e s m below meth c hsz hx hb hr hml hown hT hlocks hin hK A hA hE hw hS ls hl
  have hw : PW G cy K ln Ls A hp0 s.heap := hw
  have hown : s.vm.findClass "LieClockModel" = some m.cls := hown
  have hl : lv_has ls 3 [(0, .int zi900), (1, .int zi901), (2, .int zi902)] := hl
  obtain ⟨Q, hQ⟩ : ∃ Q : State → Prop, Q = MQ below (QBi (S := (Nat → Nat → Value)) (fun (r : Int32) (u : (Nat → Nat → Value)) => Ok K u ∧ Fr [] K hp0 u ∧ ((0 : Int) ≤ r.toInt ∧ r.toInt ≤ 1) ∧ (r = 1 → ((0 : Int) ≤ zi900.toInt ∧ zi900.toInt ≤ 5))) G (fun u => va_pl Ls (cellOf cy K ln u)) A) ([.int zi900, .int zi901, .int zi902] : List Value).toArray s 0 0 A := ⟨_, rfl⟩
  rw [← hQ]
  refine lv_iload_n hx hb dX12_in_0 rfl (lv_at hl 0 rfl) ?_
  refine lv_iload_n hx hb dX12_in_1 rfl (lv_at hl 1 rfl) ?_
  refine lv_icmp_lt (tgt := 14) hx hb dX12_in_2 (by decide) (fun cn1 => ?_) (fun cn1 => ?_)
  · skip
    have bd2 : (-2147483648 : Int) ≤ zi900.toInt ∧ zi900.toInt ≤ -1 := r_lt_x cn1 (b_all zi900) bd901 (by decide) (by decide)
    refine lv_iconst (v := 0) hx hb dX12_in_14 (by decide) ?_
    rw [hQ]
    exact kz_i hx hb hr hlocks hS (nz_n bc_0 (by decide) (by decide)) hp0 hw ⟨ok0, (Fr.rf), (b_wid2 bc_0 (by decide) (by decide)), (fun h => absurd h (by decide))⟩ (Nat.le_of_ble_eq_true rfl) (Nat.le_of_ble_eq_true rfl) dX12_in_15
  · skip
    have bd3 : (0 : Int) ≤ zi900.toInt ∧ zi900.toInt ≤ 2147483647 := r_le_y (Int32.not_lt.mp cn1) bd901 (b_all zi900) (by decide) (by decide)
    refine lv_iload_n hx hb dX12_in_5 rfl (lv_at hl 0 rfl) ?_
    refine lv_iload_n hx hb dX12_in_6 rfl (lv_at hl 2 rfl) ?_
    refine lv_icmp_gt (tgt := 14) hx hb dX12_in_7 (by decide) (fun cn4 => ?_) (fun cn4 => ?_)
    · skip
      have bd5 : (1 : Int) ≤ zi900.toInt ∧ zi900.toInt ≤ 2147483647 := r_lt_y cn4 bd902 bd3 (by decide) (by decide)
      refine lv_iconst (v := 0) hx hb dX12_in_14 (by decide) ?_
      rw [hQ]
      exact kz_i hx hb hr hlocks hS (nz_n bc_0 (by decide) (by decide)) hp0 hw ⟨ok0, (Fr.rf), (b_wid2 bc_0 (by decide) (by decide)), (fun h => absurd h (by decide))⟩ (Nat.le_of_ble_eq_true rfl) (Nat.le_of_ble_eq_true rfl) dX12_in_15
    · skip
      have bd6 : (0 : Int) ≤ zi900.toInt ∧ zi900.toInt ≤ 5 := r_le_x (Int32.not_lt.mp cn4) bd3 bd902 (by decide) (by decide)
      refine lv_iconst (v := 1) hx hb dX12_in_10 (by decide) ?_
      refine lv_goto (tgt := 15) hx hb dX12_in_11 (by decide) ?_
      rw [hQ]
      exact kz_i hx hb hr hlocks hS (nz_n bc_1 (by decide) (by decide)) hp0 hw ⟨ok0, (Fr.rf), (b_wid2 bc_1 (by decide) (by decide)), (fun _ => b_wid2 bd6 (by decide) (by decide))⟩ (Nat.le_of_ble_eq_true rfl) (Nat.le_of_ble_eq_true rfl) dX12_in_15

set_option maxRecDepth 100000 in
set_option maxHeartbeats 4000000 in
theorem cX12_in_9 (l : Launch) (G : va_G) (cy : Nat → ClassId) (ev : Ew) (K ln : Nat → Nat) (Ls : List Nat) (hW : SW K ln Ls) (sz : Nat) (hp0 : Nat → Nat → Value) (ok0 : Ok K hp0) (zi900 : Int32) (zi901 : Int32) (zi902 : Int32) (bd901 : ((0 : Int) ≤ zi901.toInt ∧ zi901.toInt ≤ 0)) (bd902 : ((2 : Int) ≤ zi902.toInt ∧ zi902.toInt ≤ 2)) : Met l yX12_in (WS yX12_in cX12_in 3 (some .boolean)) { frames := 0, cells := 0, slots := 0, locals := 0 } (PB2 [.int zi900, .int zi901, .int zi902] sz G cy ev (va_pl Ls (cellOf cy K ln hp0))) (QBi (S := (Nat → Nat → Value)) (fun (r : Int32) (u : (Nat → Nat → Value)) => Ok K u ∧ Fr [] K hp0 u ∧ ((0 : Int) ≤ r.toInt ∧ r.toInt ≤ 1) ∧ (r = 1 → ((0 : Int) ≤ zi900.toInt ∧ zi900.toInt ≤ 2))) G (fun u => va_pl Ls (cellOf cy K ln u)) (va_A (va_pl Ls (cellOf cy K ln hp0)) sz)) 0 0 (va_A (va_pl Ls (cellOf cy K ln hp0)) sz) := by
  refine met_of2 (y := yX12_in) (L := 3) (av := [.int zi900, .int zi901, .int zi902]) (Qc := fun A => QBi (S := (Nat → Nat → Value)) (fun (r : Int32) (u : (Nat → Nat → Value)) => Ok K u ∧ Fr [] K hp0 u ∧ ((0 : Int) ≤ r.toInt ∧ r.toInt ≤ 1) ∧ (r = 1 → ((0 : Int) ≤ zi900.toInt ∧ zi900.toInt ≤ 2))) G (fun u => va_pl Ls (cellOf cy K ln u)) A) (plainFor_of_name (by decide)) (Nat.le_of_ble_eq_true rfl) ?_
  intro p e s m below meth c hsz hx hb hr hml hown hT hlocks hin hK A hA hE hw hS ls hl
  have hw : PW G cy K ln Ls A hp0 s.heap := hw
  have hown : s.vm.findClass "LieClockModel" = some m.cls := hown
  have hl : lv_has ls 3 [(0, .int zi900), (1, .int zi901), (2, .int zi902)] := hl
  obtain ⟨Q, hQ⟩ : ∃ Q : State → Prop, Q = MQ below (QBi (S := (Nat → Nat → Value)) (fun (r : Int32) (u : (Nat → Nat → Value)) => Ok K u ∧ Fr [] K hp0 u ∧ ((0 : Int) ≤ r.toInt ∧ r.toInt ≤ 1) ∧ (r = 1 → ((0 : Int) ≤ zi900.toInt ∧ zi900.toInt ≤ 2))) G (fun u => va_pl Ls (cellOf cy K ln u)) A) ([.int zi900, .int zi901, .int zi902] : List Value).toArray s 0 0 A := ⟨_, rfl⟩
  rw [← hQ]
  refine lv_iload_n hx hb dX12_in_0 rfl (lv_at hl 0 rfl) ?_
  refine lv_iload_n hx hb dX12_in_1 rfl (lv_at hl 1 rfl) ?_
  refine lv_icmp_lt (tgt := 14) hx hb dX12_in_2 (by decide) (fun cn1 => ?_) (fun cn1 => ?_)
  · skip
    have bd2 : (-2147483648 : Int) ≤ zi900.toInt ∧ zi900.toInt ≤ -1 := r_lt_x cn1 (b_all zi900) bd901 (by decide) (by decide)
    refine lv_iconst (v := 0) hx hb dX12_in_14 (by decide) ?_
    rw [hQ]
    exact kz_i hx hb hr hlocks hS (nz_n bc_0 (by decide) (by decide)) hp0 hw ⟨ok0, (Fr.rf), (b_wid2 bc_0 (by decide) (by decide)), (fun h => absurd h (by decide))⟩ (Nat.le_of_ble_eq_true rfl) (Nat.le_of_ble_eq_true rfl) dX12_in_15
  · skip
    have bd3 : (0 : Int) ≤ zi900.toInt ∧ zi900.toInt ≤ 2147483647 := r_le_y (Int32.not_lt.mp cn1) bd901 (b_all zi900) (by decide) (by decide)
    refine lv_iload_n hx hb dX12_in_5 rfl (lv_at hl 0 rfl) ?_
    refine lv_iload_n hx hb dX12_in_6 rfl (lv_at hl 2 rfl) ?_
    refine lv_icmp_gt (tgt := 14) hx hb dX12_in_7 (by decide) (fun cn4 => ?_) (fun cn4 => ?_)
    · skip
      have bd5 : (3 : Int) ≤ zi900.toInt ∧ zi900.toInt ≤ 2147483647 := r_lt_y cn4 bd902 bd3 (by decide) (by decide)
      refine lv_iconst (v := 0) hx hb dX12_in_14 (by decide) ?_
      rw [hQ]
      exact kz_i hx hb hr hlocks hS (nz_n bc_0 (by decide) (by decide)) hp0 hw ⟨ok0, (Fr.rf), (b_wid2 bc_0 (by decide) (by decide)), (fun h => absurd h (by decide))⟩ (Nat.le_of_ble_eq_true rfl) (Nat.le_of_ble_eq_true rfl) dX12_in_15
    · skip
      have bd6 : (0 : Int) ≤ zi900.toInt ∧ zi900.toInt ≤ 2 := r_le_x (Int32.not_lt.mp cn4) bd3 bd902 (by decide) (by decide)
      refine lv_iconst (v := 1) hx hb dX12_in_10 (by decide) ?_
      refine lv_goto (tgt := 15) hx hb dX12_in_11 (by decide) ?_
      rw [hQ]
      exact kz_i hx hb hr hlocks hS (nz_n bc_1 (by decide) (by decide)) hp0 hw ⟨ok0, (Fr.rf), (b_wid2 bc_1 (by decide) (by decide)), (fun _ => b_wid2 bd6 (by decide) (by decide))⟩ (Nat.le_of_ble_eq_true rfl) (Nat.le_of_ble_eq_true rfl) dX12_in_15

set_option maxRecDepth 100000 in
set_option maxHeartbeats 4000000 in
theorem cX12_hold_0 (l : Launch) (G : va_G) (cy : Nat → ClassId) (ev : Ew) (K ln : Nat → Nat) (Ls : List Nat) (hW : SW K ln Ls) (sz : Nat) (hp0 : Nat → Nat → Value) (ok0 : Ok K hp0) (qa900 : Nat) (zi901 : Int32) (kd900 : K qa900 = 13) : Met l yX12_hold (WS yX12_hold cX12_hold 3 (some .boolean)) { frames := 1, cells := 0, slots := 0, locals := 22 } (PB2 [.ref qa900, .int zi901] sz G cy ev (va_pl Ls (cellOf cy K ln hp0))) (QBi (S := (Nat → Nat → Value)) (fun (r : Int32) (u : (Nat → Nat → Value)) => Ok K u ∧ Fr [101000, 102000] K hp0 u ∧ ((0 : Int) ≤ r.toInt ∧ r.toInt ≤ 1) ∧ (r = 1 → ((0 : Int) ≤ zi901.toInt ∧ zi901.toInt ≤ 2))) G (fun u => va_pl Ls (cellOf cy K ln u)) (va_A (va_pl Ls (cellOf cy K ln hp0)) sz)) 0 0 (va_A (va_pl Ls (cellOf cy K ln hp0)) sz) := by
  refine met_of2 (y := yX12_hold) (L := 3) (av := [.ref qa900, .int zi901]) (Qc := fun A => QBi (S := (Nat → Nat → Value)) (fun (r : Int32) (u : (Nat → Nat → Value)) => Ok K u ∧ Fr [101000, 102000] K hp0 u ∧ ((0 : Int) ≤ r.toInt ∧ r.toInt ≤ 1) ∧ (r = 1 → ((0 : Int) ≤ zi901.toInt ∧ zi901.toInt ≤ 2))) G (fun u => va_pl Ls (cellOf cy K ln u)) A) (plainFor_of_name (by decide)) (Nat.le_of_ble_eq_true rfl) ?_
  intro p e s m below meth c hsz hx hb hr hml hown hT hlocks hin hK A hA hE hw hS ls hl
  have hw : PW G cy K ln Ls A hp0 s.heap := hw
  have hown : s.vm.findClass "LieClockModel" = some m.cls := hown
  have hl : lv_has ls 3 [(0, .ref qa900), (1, .int zi901)] := hl
  obtain ⟨Q, hQ⟩ : ∃ Q : State → Prop, Q = MQ below (QBi (S := (Nat → Nat → Value)) (fun (r : Int32) (u : (Nat → Nat → Value)) => Ok K u ∧ Fr [101000, 102000] K hp0 u ∧ ((0 : Int) ≤ r.toInt ∧ r.toInt ≤ 1) ∧ (r = 1 → ((0 : Int) ≤ zi901.toInt ∧ zi901.toInt ≤ 2))) G (fun u => va_pl Ls (cellOf cy K ln u)) A) ([.ref qa900, .int zi901] : List Value).toArray s 0 0 A := ⟨_, rfl⟩
  rw [← hQ]
  refine lv_iload_n hx hb dX12_hold_0 rfl (lv_at hl 1 rfl) ?_
  refine lv_iconst (v := 0) hx hb dX12_hold_1 (by decide) ?_
  refine lv_iconst (v := 2) hx hb dX12_hold_2 (by decide) ?_
  refine kq_i hw hS hA (va_runS (As := [.int zi901, .int 0, .int 2]) (rest := []) ⟨hx, hb, hml, hown, hT⟩ (cX12_in_9 l G cy ev K ln Ls hW _ hp0 ok0 zi901 0 2 (b_wid2 bc_0 (by decide) (by decide)) (b_wid2 bc_2 (by decide) (by decide))) (va_cwS 3 hT (good_S tb_1734 tb_1732 tb_1733 tb_122) rfl rfl rfl (by decide +kernel) ⟨Nat.le_of_ble_eq_true rfl, Nat.le_of_ble_eq_true rfl⟩) (PB2.preS hK hE hS hA hw) rfl rfl hl.1 rfl (lv_room (Nat.le_of_ble_eq_true rfl)) dX12_hold_3 ⟨Nat.le_of_ble_eq_true rfl, Nat.le_of_ble_eq_true rfl⟩) (fun zi5 hp1 H locs hq4 hw hS => ?_)
  obtain ⟨ok2, F3, bd6, hc7⟩ := hq4
  obtain rfl : hp0 = hp1 := (Fr.nil F3).symm
  have hw : PW G cy K ln Ls A hp0 H := hw
  rcases b01 bd6 with cn8 | cn8
  · skip
    subst cn8
    refine lv_if_ne (tgt := 11) hx hb dX12_hold_6 (by decide) (fun c => absurd (d_eq bc_0 bc_0) c) (fun _ => ?_)
    refine lv_iconst (v := 0) hx hb dX12_hold_9 (by decide) ?_
    rw [hQ]
    exact kz_i hx hb hr hlocks hS (nz_n bc_0 (by decide) (by decide)) hp0 hw ⟨ok0, (Fr.rf), (b_wid2 bc_0 (by decide) (by decide)), (fun h => absurd h (by decide))⟩ (Nat.le_of_ble_eq_true rfl) (Nat.le_of_ble_eq_true rfl) dX12_hold_10
  · skip
    subst cn8
    have bd9 : (0 : Int) ≤ zi901.toInt ∧ zi901.toInt ≤ 2 := b_meet (b_all zi901) (hc7 rfl) (by decide) (by decide)
    refine lv_if_ne (tgt := 11) hx hb dX12_hold_6 (by decide) (fun _ => ?_) (fun c => absurd c (d_ne bc_1 bc_0 (by decide)))
    refine lv_aload_n hx hb dX12_hold_11 rfl (lv_at hl 0 rfl) ?_
    obtain ⟨qa11, eq10, kd12⟩ := rd_13067 ok0 kd900
    refine p_get (ci := 12) (v := .ref qa11) (C := RX12) (T := TX12) (N := 69) hx hb hT iw_X12 hown hK hw hW kd900 (by decide) rfl rfl 67 (by decide) eq10 (hT _ tb_1441) (fun _ h9 => h9) dX12_hold_12 ?_
    refine lv_iload_n hx hb dX12_hold_15 rfl (lv_at hl 1 rfl) ?_
    refine lv_iconst (v := 1) hx hb dX12_hold_16 (by decide) ?_
    refine p_zast (x := 1) hx hb hK hw hS hW kd12 (by decide) rfl (hW.len kd12 (n := 3) rfl (by decide)) (vp_b bd9 (by decide) (by decide)) dX12_hold_17 (fun hp13 eh14 H locs hw hS => ?_)
    have ok15 := wr_101000 (nar_z 1) (by decide) (by decide) ok0 kd12 eh14
    refine lv_iconst (v := 0) hx hb dX12_hold_18 (by decide) ?_
    refine lv_istore_n (lv' := [(2, .int 0), (0, .ref qa900), (1, .int zi901)]) hx hb dX12_hold_19 rfl hl (by decide) rfl (fun ls hl => ?_)
    have lp233 : ∀ (n231 : Nat) (hp177 : Nat → Nat → Value) (zi176 : Int32) (H : Heap) (locs : List Loc) (ls : Array Slot), 40 - zi176.toInt < (n231 : Int) → Ok K hp177 → Fr [102000] K hp13 hp177 → ((0 : Int) ≤ zi176.toInt ∧ zi176.toInt ≤ 40) → lv_has ls 3 [(0, .ref qa900), (1, .int zi901), (2, .int zi176)] → PW G cy K ln Ls A hp177 H → va_S A s.heap H locs → W p l e ({ frames := 1, cells := 0, slots := 0, locals := 22 } : Room) s m ([.ref qa900, .int zi901] : List Value).toArray below meth c H locs 0 0 Q (F0 m 20 ls []) := by
      intro n231
      induction n231 with
      | zero =>
        intro hp177 zi176 H locs ls hm234 ok179 F178 bd180 hl hw hS
        exact absurd hm234 (by have := bd180; omega)
      | succ n231 ih232 =>
        intro hp177 zi176 H locs ls hm234 ok179 F178 bd180 hl hw hS
        refine lv_iload_n hx hb dX12_hold_20 rfl (lv_at hl 2 rfl) ?_
        refine lv_bipush (v := 40) hx hb dX12_hold_21 (by decide) ?_
        refine lv_icmp_ge (tgt := 49) hx hb dX12_hold_23 (by decide) (fun cn235 => ?_) (fun cn235 => ?_)
        · skip
          have bd260 : (40 : Int) ≤ zi176.toInt ∧ zi176.toInt ≤ 40 := r_le_y cn235 bc_40 bd180 (by decide) (by decide)
          refine lv_iconst (v := 1) hx hb dX12_hold_49 (by decide) ?_
          rw [hQ]
          exact kz_i hx hb hr hlocks hS (nz_n bc_1 (by decide) (by decide)) hp177 hw ⟨ok179, (Fr.tr (Fr.put (cq := 101000) (Fr.rf) eh14 kd12 (cd_a (by decide)) (by decide)) F178 (by decide)), (b_wid2 bc_1 (by decide) (by decide)), (fun _ => b_wid2 bd9 (by decide) (by decide))⟩ (Nat.le_of_ble_eq_true rfl) (Nat.le_of_ble_eq_true rfl) dX12_hold_50
        · skip
          have bd261 : (0 : Int) ≤ zi176.toInt ∧ zi176.toInt ≤ 39 := r_lt_x (Int32.not_le.mp cn235) bd180 bc_40 (by decide) (by decide)
          refine lv_aload_n hx hb dX12_hold_26 rfl (lv_at hl 0 rfl) ?_
          obtain ⟨qa263, eq262, kd264⟩ := rd_13068 ok179 kd900
          refine p_get (ci := 12) (v := .ref qa263) (C := RX12) (T := TX12) (N := 69) hx hb hT iw_X12 hown hK hw hW kd900 (by decide) rfl rfl 68 (by decide) eq262 (hT _ tb_1442) (fun _ h9 => h9) dX12_hold_27 ?_
          refine lv_bipush (v := 40) hx hb dX12_hold_30 (by decide) ?_
          refine lv_iload_n hx hb dX12_hold_32 rfl (lv_at hl 1 rfl) ?_
          refine lv_imul hx hb dX12_hold_33 (lv_topi (fun zi265 ea266 => ?_))
          have bd267 : (0 : Int) ≤ zi265.toInt ∧ zi265.toInt ≤ 80 := b_imul ea266 bc_40 bd9 (by decide) (by decide) (by decide) (by decide) (by decide)
          refine lv_iload_n hx hb dX12_hold_34 rfl (lv_at hl 2 rfl) ?_
          refine lv_iadd hx hb dX12_hold_35 (lv_topi (fun zi268 ea269 => ?_))
          have bd270 : (0 : Int) ≤ zi268.toInt ∧ zi268.toInt ≤ 119 := b_iadd ea269 bd267 bd261 (by decide) (by decide) (by decide) (by decide)
          refine lv_aload_n hx hb dX12_hold_36 rfl (lv_at hl 0 rfl) ?_
          obtain ⟨qa272, eq271, kd273⟩ := rd_13049 ok179 kd900
          refine p_get (ci := 12) (v := .ref qa272) (C := RX12) (T := TX12) (N := 69) hx hb hT iw_X12 hown hK hw hW kd900 (by decide) rfl rfl 49 (by decide) eq271 (hT _ tb_1423) (fun _ h9 => h9) dX12_hold_37 ?_
          refine lv_iload_n hx hb dX12_hold_40 rfl (lv_at hl 2 rfl) ?_
          obtain ⟨zi275, eq274⟩ := rd_92000 ok179 kd273 ((zi176 : Int32).toNatClampNeg)
          refine p_iald (v := zi275) hx hb hK hw hW kd273 (by decide) rfl (hW.len kd273 (n := 40) rfl (by decide)) (vp_b bd261 (by decide) (by decide)) eq274 dX12_hold_41 ?_
          refine p_iast (x := zi275) hx hb hK hw hS hW kd264 (by decide) rfl (hW.len kd264 (n := 120) rfl (by decide)) (vp_b bd270 (by decide) (by decide)) dX12_hold_42 (fun hp276 eh277 H locs hw hS => ?_)
          have ok278 := wr_102000 ok179 kd264 eh277
          obtain ⟨zi279, ea280⟩ : ∃ z : Int32, z = zi176 + 1 := ⟨_, rfl⟩
          have bd281 : (1 : Int) ≤ zi279.toInt ∧ zi279.toInt ≤ 40 := b_iadd ea280 bd261 bc_1 (by decide) (by decide) (by decide) (by decide)
          have qe282 : zi279.toInt = (zi176 : Int32).toInt + (1 : Int32).toInt := e_iadd ea280 bd261 bc_1 (by decide) (by decide)
          have qe283 : zi279.toInt = zi176.toInt + 1 := by have ha : (1 : Int32).toInt = 1 := (by decide); rw [ha] at qe282; exact qe282
          refine lv_iinc (v := zi279) (lv' := [(2, .int zi279), (0, .ref qa900), (1, .int zi901)]) hx hb dX12_hold_43 hl (k := 2) rfl ea280.symm (by decide) rfl (fun ls hl => ?_)
          refine lv_goto (tgt := 20) hx hb dX12_hold_46 (by decide) ?_
          exact ih232 hp276 zi279 _ _ ls (by have := hm234; have := qe283; omega) ok278 (Fr.put (cq := 102000) (Fr.tr (Fr.rf) F178 (by decide)) eh277 kd264 (cd_a (by decide)) (by decide)) (b_wid2 bd281 (by decide) (by decide)) (lv_sub hl [1, 2, 0] rfl) hw hS
    exact lp233 _ hp13 0 _ _ ls (lp_in _) ok15 (Fr.rf) (b_wid2 bc_0 (by decide) (by decide)) (lv_sub hl [1, 2, 0] rfl) hw hS

set_option maxRecDepth 100000 in
set_option maxHeartbeats 4000000 in
theorem cX12_restore_0 (l : Launch) (G : va_G) (cy : Nat → ClassId) (ev : Ew) (K ln : Nat → Nat) (Ls : List Nat) (hW : SW K ln Ls) (sz : Nat) (hp0 : Nat → Nat → Value) (ok0 : Ok K hp0) (qa900 : Nat) (zi901 : Int32) (kd900 : K qa900 = 13) : Met l yX12_restore (WS yX12_restore cX12_restore 3 (some .boolean)) { frames := 1, cells := 0, slots := 0, locals := 22 } (PB2 [.ref qa900, .int zi901] sz G cy ev (va_pl Ls (cellOf cy K ln hp0))) (QBi (S := (Nat → Nat → Value)) (fun (r : Int32) (u : (Nat → Nat → Value)) => Ok K u ∧ Fr [13053, 92000] K hp0 u ∧ ((0 : Int) ≤ r.toInt ∧ r.toInt ≤ 1) ∧ (r = 1 → ∃ z : Int32, u qa900 53 = .int z ∧ ((0 : Int) ≤ z.toInt ∧ z.toInt ≤ 0)) ∧ (r = 1 → ((0 : Int) ≤ zi901.toInt ∧ zi901.toInt ≤ 2))) G (fun u => va_pl Ls (cellOf cy K ln u)) (va_A (va_pl Ls (cellOf cy K ln hp0)) sz)) 0 0 (va_A (va_pl Ls (cellOf cy K ln hp0)) sz) := by
  refine met_of2 (y := yX12_restore) (L := 3) (av := [.ref qa900, .int zi901]) (Qc := fun A => QBi (S := (Nat → Nat → Value)) (fun (r : Int32) (u : (Nat → Nat → Value)) => Ok K u ∧ Fr [13053, 92000] K hp0 u ∧ ((0 : Int) ≤ r.toInt ∧ r.toInt ≤ 1) ∧ (r = 1 → ∃ z : Int32, u qa900 53 = .int z ∧ ((0 : Int) ≤ z.toInt ∧ z.toInt ≤ 0)) ∧ (r = 1 → ((0 : Int) ≤ zi901.toInt ∧ zi901.toInt ≤ 2))) G (fun u => va_pl Ls (cellOf cy K ln u)) A) (plainFor_of_name (by decide)) (Nat.le_of_ble_eq_true rfl) ?_
  intro p e s m below meth c hsz hx hb hr hml hown hT hlocks hin hK A hA hE hw hS ls hl
  have hw : PW G cy K ln Ls A hp0 s.heap := hw
  have hown : s.vm.findClass "LieClockModel" = some m.cls := hown
  have hl : lv_has ls 3 [(0, .ref qa900), (1, .int zi901)] := hl
  obtain ⟨Q, hQ⟩ : ∃ Q : State → Prop, Q = MQ below (QBi (S := (Nat → Nat → Value)) (fun (r : Int32) (u : (Nat → Nat → Value)) => Ok K u ∧ Fr [13053, 92000] K hp0 u ∧ ((0 : Int) ≤ r.toInt ∧ r.toInt ≤ 1) ∧ (r = 1 → ∃ z : Int32, u qa900 53 = .int z ∧ ((0 : Int) ≤ z.toInt ∧ z.toInt ≤ 0)) ∧ (r = 1 → ((0 : Int) ≤ zi901.toInt ∧ zi901.toInt ≤ 2))) G (fun u => va_pl Ls (cellOf cy K ln u)) A) ([.ref qa900, .int zi901] : List Value).toArray s 0 0 A := ⟨_, rfl⟩
  rw [← hQ]
  refine lv_iload_n hx hb dX12_restore_0 rfl (lv_at hl 1 rfl) ?_
  refine lv_iconst (v := 0) hx hb dX12_restore_1 (by decide) ?_
  refine lv_iconst (v := 2) hx hb dX12_restore_2 (by decide) ?_
  refine kq_i hw hS hA (va_runS (As := [.int zi901, .int 0, .int 2]) (rest := []) ⟨hx, hb, hml, hown, hT⟩ (cX12_in_9 l G cy ev K ln Ls hW _ hp0 ok0 zi901 0 2 (b_wid2 bc_0 (by decide) (by decide)) (b_wid2 bc_2 (by decide) (by decide))) (va_cwS 3 hT (good_S tb_1734 tb_1732 tb_1733 tb_122) rfl rfl rfl (by decide +kernel) ⟨Nat.le_of_ble_eq_true rfl, Nat.le_of_ble_eq_true rfl⟩) (PB2.preS hK hE hS hA hw) rfl rfl hl.1 rfl (lv_room (Nat.le_of_ble_eq_true rfl)) dX12_restore_3 ⟨Nat.le_of_ble_eq_true rfl, Nat.le_of_ble_eq_true rfl⟩) (fun zi5 hp1 H locs hq4 hw hS => ?_)
  obtain ⟨ok2, F3, bd6, hc7⟩ := hq4
  obtain rfl : hp0 = hp1 := (Fr.nil F3).symm
  have hw : PW G cy K ln Ls A hp0 H := hw
  rcases b01 bd6 with cn8 | cn8
  · skip
    subst cn8
    refine lv_if_eq (tgt := 18) hx hb dX12_restore_6 (by decide) (fun _ => ?_) (fun c => absurd (d_eq bc_0 bc_0) c)
    refine lv_iconst (v := 0) hx hb dX12_restore_18 (by decide) ?_
    rw [hQ]
    exact kz_i hx hb hr hlocks hS (nz_n bc_0 (by decide) (by decide)) hp0 hw ⟨ok0, (Fr.rf), (b_wid2 bc_0 (by decide) (by decide)), (fun h => absurd h (by decide)), (fun h => absurd h (by decide))⟩ (Nat.le_of_ble_eq_true rfl) (Nat.le_of_ble_eq_true rfl) dX12_restore_19
  · skip
    subst cn8
    have bd9 : (0 : Int) ≤ zi901.toInt ∧ zi901.toInt ≤ 2 := b_meet (b_all zi901) (hc7 rfl) (by decide) (by decide)
    refine lv_if_eq (tgt := 18) hx hb dX12_restore_6 (by decide) (fun c => absurd c (d_ne bc_1 bc_0 (by decide))) (fun _ => ?_)
    refine lv_aload_n hx hb dX12_restore_9 rfl (lv_at hl 0 rfl) ?_
    obtain ⟨qa11, eq10, kd12⟩ := rd_13067 ok0 kd900
    refine p_get (ci := 12) (v := .ref qa11) (C := RX12) (T := TX12) (N := 69) hx hb hT iw_X12 hown hK hw hW kd900 (by decide) rfl rfl 67 (by decide) eq10 (hT _ tb_1441) (fun _ h9 => h9) dX12_restore_10 ?_
    refine lv_iload_n hx hb dX12_restore_13 rfl (lv_at hl 1 rfl) ?_
    obtain ⟨zi14, eq13, bd15⟩ := rd_101000 ok0 kd12 ((zi901 : Int32).toNatClampNeg)
    refine p_zald (v := zi14) hx hb hK hw hW kd12 (by decide) rfl (hW.len kd12 (n := 3) rfl (by decide)) (vp_b bd9 (by decide) (by decide)) eq13 dX12_restore_14 ?_
    refine lv_if_ne (tgt := 20) hx hb dX12_restore_15 (by decide) (fun cn16 => ?_) (fun cn16 => ?_)
    · skip
      have bd17 : (1 : Int) ≤ zi14.toInt ∧ zi14.toInt ≤ 1 := r_ne_lo cn16 bd15 (toi bc_0) (by decide) (by decide)
      refine lv_iconst (v := 0) hx hb dX12_restore_20 (by decide) ?_
      refine lv_istore_n (lv' := [(2, .int 0), (0, .ref qa900), (1, .int zi901)]) hx hb dX12_restore_21 rfl hl (by decide) rfl (fun ls hl => ?_)
      have lp235 : ∀ (n233 : Nat) (hp179 : Nat → Nat → Value) (zi178 : Int32) (H : Heap) (locs : List Loc) (ls : Array Slot), 40 - zi178.toInt < (n233 : Int) → Ok K hp179 → Fr [92000] K hp0 hp179 → ((0 : Int) ≤ zi178.toInt ∧ zi178.toInt ≤ 40) → lv_has ls 3 [(0, .ref qa900), (1, .int zi901), (2, .int zi178)] → PW G cy K ln Ls A hp179 H → va_S A s.heap H locs → W p l e ({ frames := 1, cells := 0, slots := 0, locals := 22 } : Room) s m ([.ref qa900, .int zi901] : List Value).toArray below meth c H locs 0 0 Q (F0 m 22 ls []) := by
        intro n233
        induction n233 with
        | zero =>
          intro hp179 zi178 H locs ls hm236 ok181 F180 bd182 hl hw hS
          exact absurd hm236 (by have := bd182; omega)
        | succ n233 ih234 =>
          intro hp179 zi178 H locs ls hm236 ok181 F180 bd182 hl hw hS
          refine lv_iload_n hx hb dX12_restore_22 rfl (lv_at hl 2 rfl) ?_
          refine lv_bipush (v := 40) hx hb dX12_restore_23 (by decide) ?_
          refine lv_icmp_ge (tgt := 51) hx hb dX12_restore_25 (by decide) (fun cn237 => ?_) (fun cn237 => ?_)
          · skip
            have bd262 : (40 : Int) ≤ zi178.toInt ∧ zi178.toInt ≤ 40 := r_le_y cn237 bc_40 bd182 (by decide) (by decide)
            refine lv_aload_n hx hb dX12_restore_51 rfl (lv_at hl 0 rfl) ?_
            refine lv_iconst (v := 0) hx hb dX12_restore_52 (by decide) ?_
            refine p_put (ci := 12) (v := .int 0) (ty := .int) (C := RX12) (T := TX12) (N := 69) hx hb hT iw_X12 tyX12 tyX12_ok nmX12 hown hK hw hS hW kd900 (by decide) rfl rfl 53 (by decide) (hT _ tb_1427) (fun _ h9 => h9) rfl (by decide +kernel) rfl rfl dX12_restore_53 (fun hp263 eh264 H locs hw hS => ?_)
            have ok265 := wr_13053 bc_0 (by decide) (by decide) ok181 kd900 eh264
            refine lv_iconst (v := 1) hx hb dX12_restore_56 (by decide) ?_
            rw [hQ]
            exact kz_i hx hb hr hlocks hS (nz_n bc_1 (by decide) (by decide)) hp263 hw ⟨ok265, (Fr.put (cq := 13053) (Fr.tr (Fr.rf) F180 (by decide)) eh264 kd900 (cd_o (by decide)) (by decide)), (b_wid2 bc_1 (by decide) (by decide)), (fun _ => ⟨_, (hp_self eh264), b_wid2 bc_0 (by decide) (by decide)⟩), (fun _ => b_wid2 bd9 (by decide) (by decide))⟩ (Nat.le_of_ble_eq_true rfl) (Nat.le_of_ble_eq_true rfl) dX12_restore_57
          · skip
            have bd266 : (0 : Int) ≤ zi178.toInt ∧ zi178.toInt ≤ 39 := r_lt_x (Int32.not_le.mp cn237) bd182 bc_40 (by decide) (by decide)
            refine lv_aload_n hx hb dX12_restore_28 rfl (lv_at hl 0 rfl) ?_
            obtain ⟨qa268, eq267, kd269⟩ := rd_13049 ok181 kd900
            refine p_get (ci := 12) (v := .ref qa268) (C := RX12) (T := TX12) (N := 69) hx hb hT iw_X12 hown hK hw hW kd900 (by decide) rfl rfl 49 (by decide) eq267 (hT _ tb_1423) (fun _ h9 => h9) dX12_restore_29 ?_
            refine lv_iload_n hx hb dX12_restore_32 rfl (lv_at hl 2 rfl) ?_
            refine lv_aload_n hx hb dX12_restore_33 rfl (lv_at hl 0 rfl) ?_
            obtain ⟨qa271, eq270, kd272⟩ := rd_13068 ok181 kd900
            refine p_get (ci := 12) (v := .ref qa271) (C := RX12) (T := TX12) (N := 69) hx hb hT iw_X12 hown hK hw hW kd900 (by decide) rfl rfl 68 (by decide) eq270 (hT _ tb_1442) (fun _ h9 => h9) dX12_restore_34 ?_
            refine lv_bipush (v := 40) hx hb dX12_restore_37 (by decide) ?_
            refine lv_iload_n hx hb dX12_restore_39 rfl (lv_at hl 1 rfl) ?_
            refine lv_imul hx hb dX12_restore_40 (lv_topi (fun zi273 ea274 => ?_))
            have bd275 : (0 : Int) ≤ zi273.toInt ∧ zi273.toInt ≤ 80 := b_imul ea274 bc_40 bd9 (by decide) (by decide) (by decide) (by decide) (by decide)
            refine lv_iload_n hx hb dX12_restore_41 rfl (lv_at hl 2 rfl) ?_
            refine lv_iadd hx hb dX12_restore_42 (lv_topi (fun zi276 ea277 => ?_))
            have bd278 : (0 : Int) ≤ zi276.toInt ∧ zi276.toInt ≤ 119 := b_iadd ea277 bd275 bd266 (by decide) (by decide) (by decide) (by decide)
            obtain ⟨zi280, eq279⟩ := rd_102000 ok181 kd272 ((zi276 : Int32).toNatClampNeg)
            refine p_iald (v := zi280) hx hb hK hw hW kd272 (by decide) rfl (hW.len kd272 (n := 120) rfl (by decide)) (vp_b bd278 (by decide) (by decide)) eq279 dX12_restore_43 ?_
            refine p_iast (x := zi280) hx hb hK hw hS hW kd269 (by decide) rfl (hW.len kd269 (n := 40) rfl (by decide)) (vp_b bd266 (by decide) (by decide)) dX12_restore_44 (fun hp281 eh282 H locs hw hS => ?_)
            have ok283 := wr_92000 ok181 kd269 eh282
            obtain ⟨zi284, ea285⟩ : ∃ z : Int32, z = zi178 + 1 := ⟨_, rfl⟩
            have bd286 : (1 : Int) ≤ zi284.toInt ∧ zi284.toInt ≤ 40 := b_iadd ea285 bd266 bc_1 (by decide) (by decide) (by decide) (by decide)
            have qe287 : zi284.toInt = (zi178 : Int32).toInt + (1 : Int32).toInt := e_iadd ea285 bd266 bc_1 (by decide) (by decide)
            have qe288 : zi284.toInt = zi178.toInt + 1 := by have ha : (1 : Int32).toInt = 1 := (by decide); rw [ha] at qe287; exact qe287
            refine lv_iinc (v := zi284) (lv' := [(2, .int zi284), (0, .ref qa900), (1, .int zi901)]) hx hb dX12_restore_45 hl (k := 2) rfl ea285.symm (by decide) rfl (fun ls hl => ?_)
            refine lv_goto (tgt := 22) hx hb dX12_restore_48 (by decide) ?_
            exact ih234 hp281 zi284 _ _ ls (by have := hm236; have := qe288; omega) ok283 (Fr.put (cq := 92000) (Fr.tr (Fr.rf) F180 (by decide)) eh282 kd269 (cd_a (by decide)) (by decide)) (b_wid2 bd286 (by decide) (by decide)) (lv_sub hl [1, 2, 0] rfl) hw hS
      exact lp235 _ hp0 0 _ _ ls (lp_in _) ok0 (Fr.rf) (b_wid2 bc_0 (by decide) (by decide)) (lv_sub hl [1, 2, 0] rfl) hw hS
    · skip
      have bd289 : (0 : Int) ≤ zi14.toInt ∧ zi14.toInt ≤ 0 := r_eq_x cn16 bd15 bc_0 (by decide) (by decide)
      refine lv_iconst (v := 0) hx hb dX12_restore_18 (by decide) ?_
      rw [hQ]
      exact kz_i hx hb hr hlocks hS (nz_n bc_0 (by decide) (by decide)) hp0 hw ⟨ok0, (Fr.rf), (b_wid2 bc_0 (by decide) (by decide)), (fun h => absurd h (by decide)), (fun h => absurd h (by decide))⟩ (Nat.le_of_ble_eq_true rfl) (Nat.le_of_ble_eq_true rfl) dX12_restore_19

set_option maxRecDepth 100000 in
set_option maxHeartbeats 4000000 in
theorem cX12_count_0 (l : Launch) (G : va_G) (cy : Nat → ClassId) (ev : Ew) (K ln : Nat → Nat) (Ls : List Nat) (hW : SW K ln Ls) (sz : Nat) (hp0 : Nat → Nat → Value) (ok0 : Ok K hp0) (qa900 : Nat) (zi901 : Int32) (kd900 : K qa900 = 13) : Met l yX12_count (WS yX12_count cX12_count 2 (some .int)) { frames := 1, cells := 0, slots := 0, locals := 22 } (PB2 [.ref qa900, .int zi901] sz G cy ev (va_pl Ls (cellOf cy K ln hp0))) (QBi (S := (Nat → Nat → Value)) (fun (r : Int32) (u : (Nat → Nat → Value)) => Ok K u ∧ Fr [93000] K hp0 u) G (fun u => va_pl Ls (cellOf cy K ln u)) (va_A (va_pl Ls (cellOf cy K ln hp0)) sz)) 0 0 (va_A (va_pl Ls (cellOf cy K ln hp0)) sz) := by
  refine met_of2 (y := yX12_count) (L := 2) (av := [.ref qa900, .int zi901]) (Qc := fun A => QBi (S := (Nat → Nat → Value)) (fun (r : Int32) (u : (Nat → Nat → Value)) => Ok K u ∧ Fr [93000] K hp0 u) G (fun u => va_pl Ls (cellOf cy K ln u)) A) (plainFor_of_name (by decide)) (Nat.le_of_ble_eq_true rfl) ?_
  intro p e s m below meth c hsz hx hb hr hml hown hT hlocks hin hK A hA hE hw hS ls hl
  have hw : PW G cy K ln Ls A hp0 s.heap := hw
  have hown : s.vm.findClass "LieClockModel" = some m.cls := hown
  have hl : lv_has ls 2 [(0, .ref qa900), (1, .int zi901)] := hl
  obtain ⟨Q, hQ⟩ : ∃ Q : State → Prop, Q = MQ below (QBi (S := (Nat → Nat → Value)) (fun (r : Int32) (u : (Nat → Nat → Value)) => Ok K u ∧ Fr [93000] K hp0 u) G (fun u => va_pl Ls (cellOf cy K ln u)) A) ([.ref qa900, .int zi901] : List Value).toArray s 0 0 A := ⟨_, rfl⟩
  rw [← hQ]
  refine lv_iload_n hx hb dX12_count_0 rfl (lv_at hl 1 rfl) ?_
  by_cases cn1 : zi901 = 0
  · skip
    refine lv_tableIn (tgt := 64) hx hb dX12_count_1 (by rw [cn1]; decide) (by rw [cn1]; decide) (by rw [cn1]; rfl) (by decide) ?_
    have bd25 : (0 : Int) ≤ zi901.toInt ∧ zi901.toInt ≤ 0 := r_eq_x cn1 (b_all zi901) bc_0 (by decide) (by decide)
    refine lv_aload_n hx hb dX12_count_64 rfl (lv_at hl 0 rfl) ?_
    obtain ⟨qa27, eq26, kd28⟩ := rd_13024 ok0 kd900
    refine p_get (ci := 12) (v := .ref qa27) (C := RX12) (T := TX12) (N := 69) hx hb hT iw_X12 hown hK hw hW kd900 (by decide) rfl rfl 24 (by decide) eq26 (hT _ tb_1398) (fun _ h9 => h9) dX12_count_65 ?_
    refine lv_aload_n hx hb dX12_count_68 rfl (lv_at hl 0 rfl) ?_
    obtain ⟨zi30, eq29, bd31⟩ := rd_13018 ok0 kd900
    refine p_get (ci := 12) (v := .int zi30) (C := RX12) (T := TX12) (N := 69) hx hb hT iw_X12 hown hK hw hW kd900 (by decide) rfl rfl 18 (by decide) eq29 (hT _ tb_1392) (fun _ h9 => h9) dX12_count_69 ?_
    obtain ⟨zi33, eq32, bd34⟩ := rd_70000 ok0 kd28 ((zi30 : Int32).toNatClampNeg)
    refine p_iald (v := zi33) hx hb hK hw hW kd28 (by decide) rfl (hW.len kd28 (n := 2) rfl (by decide)) (vp_b bd31 (by decide) (by decide)) eq32 dX12_count_72 ?_
    rw [hQ]
    exact kz_i hx hb hr hlocks hS rfl hp0 hw ⟨ok0, (Fr.rf)⟩ (Nat.le_of_ble_eq_true rfl) (Nat.le_of_ble_eq_true rfl) dX12_count_73
  by_cases cn2 : zi901 = 1
  · skip
    refine lv_tableIn (tgt := 74) hx hb dX12_count_1 (by rw [cn2]; decide) (by rw [cn2]; decide) (by rw [cn2]; rfl) (by decide) ?_
    have bd35 : (1 : Int) ≤ zi901.toInt ∧ zi901.toInt ≤ 1 := r_eq_x cn2 (b_all zi901) bc_1 (by decide) (by decide)
    refine lv_aload_n hx hb dX12_count_74 rfl (lv_at hl 0 rfl) ?_
    obtain ⟨qa37, eq36, kd38⟩ := rd_13027 ok0 kd900
    refine p_get (ci := 12) (v := .ref qa37) (C := RX12) (T := TX12) (N := 69) hx hb hT iw_X12 hown hK hw hW kd900 (by decide) rfl rfl 27 (by decide) eq36 (hT _ tb_1401) (fun _ h9 => h9) dX12_count_75 ?_
    refine lv_aload_n hx hb dX12_count_78 rfl (lv_at hl 0 rfl) ?_
    obtain ⟨zi40, eq39, bd41⟩ := rd_13018 ok0 kd900
    refine p_get (ci := 12) (v := .int zi40) (C := RX12) (T := TX12) (N := 69) hx hb hT iw_X12 hown hK hw hW kd900 (by decide) rfl rfl 18 (by decide) eq39 (hT _ tb_1392) (fun _ h9 => h9) dX12_count_79 ?_
    obtain ⟨zi43, eq42, bd44⟩ := rd_73000 ok0 kd38 ((zi40 : Int32).toNatClampNeg)
    refine p_iald (v := zi43) hx hb hK hw hW kd38 (by decide) rfl (hW.len kd38 (n := 2) rfl (by decide)) (vp_b bd41 (by decide) (by decide)) eq42 dX12_count_82 ?_
    rw [hQ]
    exact kz_i hx hb hr hlocks hS rfl hp0 hw ⟨ok0, (Fr.rf)⟩ (Nat.le_of_ble_eq_true rfl) (Nat.le_of_ble_eq_true rfl) dX12_count_83
  by_cases cn3 : zi901 = 2
  · skip
    refine lv_tableIn (tgt := 84) hx hb dX12_count_1 (by rw [cn3]; decide) (by rw [cn3]; decide) (by rw [cn3]; rfl) (by decide) ?_
    have bd45 : (2 : Int) ≤ zi901.toInt ∧ zi901.toInt ≤ 2 := r_eq_x cn3 (b_all zi901) bc_2 (by decide) (by decide)
    refine lv_aload_n hx hb dX12_count_84 rfl (lv_at hl 0 rfl) ?_
    obtain ⟨qa47, eq46, kd48⟩ := rd_13028 ok0 kd900
    refine p_get (ci := 12) (v := .ref qa47) (C := RX12) (T := TX12) (N := 69) hx hb hT iw_X12 hown hK hw hW kd900 (by decide) rfl rfl 28 (by decide) eq46 (hT _ tb_1402) (fun _ h9 => h9) dX12_count_85 ?_
    refine lv_aload_n hx hb dX12_count_88 rfl (lv_at hl 0 rfl) ?_
    obtain ⟨zi50, eq49, bd51⟩ := rd_13018 ok0 kd900
    refine p_get (ci := 12) (v := .int zi50) (C := RX12) (T := TX12) (N := 69) hx hb hT iw_X12 hown hK hw hW kd900 (by decide) rfl rfl 18 (by decide) eq49 (hT _ tb_1392) (fun _ h9 => h9) dX12_count_89 ?_
    obtain ⟨zi53, eq52, bd54⟩ := rd_74000 ok0 kd48 ((zi50 : Int32).toNatClampNeg)
    refine p_iald (v := zi53) hx hb hK hw hW kd48 (by decide) rfl (hW.len kd48 (n := 2) rfl (by decide)) (vp_b bd51 (by decide) (by decide)) eq52 dX12_count_92 ?_
    rw [hQ]
    exact kz_i hx hb hr hlocks hS rfl hp0 hw ⟨ok0, (Fr.rf)⟩ (Nat.le_of_ble_eq_true rfl) (Nat.le_of_ble_eq_true rfl) dX12_count_93
  by_cases cn4 : zi901 = 3
  · skip
    refine lv_tableIn (tgt := 94) hx hb dX12_count_1 (by rw [cn4]; decide) (by rw [cn4]; decide) (by rw [cn4]; rfl) (by decide) ?_
    have bd55 : (3 : Int) ≤ zi901.toInt ∧ zi901.toInt ≤ 3 := r_eq_x cn4 (b_all zi901) bc_3 (by decide) (by decide)
    refine lv_aload_n hx hb dX12_count_94 rfl (lv_at hl 0 rfl) ?_
    obtain ⟨qa57, eq56, kd58⟩ := rd_13032 ok0 kd900
    refine p_get (ci := 12) (v := .ref qa57) (C := RX12) (T := TX12) (N := 69) hx hb hT iw_X12 hown hK hw hW kd900 (by decide) rfl rfl 32 (by decide) eq56 (hT _ tb_1406) (fun _ h9 => h9) dX12_count_95 ?_
    refine lv_aload_n hx hb dX12_count_98 rfl (lv_at hl 0 rfl) ?_
    obtain ⟨zi60, eq59, bd61⟩ := rd_13018 ok0 kd900
    refine p_get (ci := 12) (v := .int zi60) (C := RX12) (T := TX12) (N := 69) hx hb hT iw_X12 hown hK hw hW kd900 (by decide) rfl rfl 18 (by decide) eq59 (hT _ tb_1392) (fun _ h9 => h9) dX12_count_99 ?_
    obtain ⟨zi63, eq62, bd64⟩ := rd_78000 ok0 kd58 ((zi60 : Int32).toNatClampNeg)
    refine p_iald (v := zi63) hx hb hK hw hW kd58 (by decide) rfl (hW.len kd58 (n := 2) rfl (by decide)) (vp_b bd61 (by decide) (by decide)) eq62 dX12_count_102 ?_
    rw [hQ]
    exact kz_i hx hb hr hlocks hS rfl hp0 hw ⟨ok0, (Fr.rf)⟩ (Nat.le_of_ble_eq_true rfl) (Nat.le_of_ble_eq_true rfl) dX12_count_103
  by_cases cn5 : zi901 = 4
  · skip
    refine lv_tableIn (tgt := 104) hx hb dX12_count_1 (by rw [cn5]; decide) (by rw [cn5]; decide) (by rw [cn5]; rfl) (by decide) ?_
    have bd65 : (4 : Int) ≤ zi901.toInt ∧ zi901.toInt ≤ 4 := r_eq_x cn5 (b_all zi901) bc_4 (by decide) (by decide)
    refine lv_aload_n hx hb dX12_count_104 rfl (lv_at hl 0 rfl) ?_
    obtain ⟨qa67, eq66, kd68⟩ := rd_13049 ok0 kd900
    refine p_get (ci := 12) (v := .ref qa67) (C := RX12) (T := TX12) (N := 69) hx hb hT iw_X12 hown hK hw hW kd900 (by decide) rfl rfl 49 (by decide) eq66 (hT _ tb_1423) (fun _ h9 => h9) dX12_count_105 ?_
    refine lv_iconst (v := 3) hx hb dX12_count_108 (by decide) ?_
    obtain ⟨zi70, eq69⟩ := rd_92000 ok0 kd68 ((3 : Int32).toNatClampNeg)
    refine p_iald (v := zi70) hx hb hK hw hW kd68 (by decide) rfl (hW.len kd68 (n := 40) rfl (by decide)) (vp_b bc_3 (by decide) (by decide)) eq69 dX12_count_109 ?_
    refine kq_i hw hS hA (va_runS (As := [.int zi70]) (rest := []) ⟨hx, hb, hml, hown, hT⟩ (cX12_bits_0 l G cy ev K ln Ls hW _ hp0 ok0 zi70) (va_cwS 1 hT (good_S tb_1776 tb_1774 tb_1775 tb_122) rfl rfl rfl (by decide +kernel) ⟨Nat.le_of_ble_eq_true rfl, Nat.le_of_ble_eq_true rfl⟩) (PB2.preS hK hE hS hA hw) rfl rfl hl.1 rfl (lv_room (Nat.le_of_ble_eq_true rfl)) dX12_count_110 ⟨Nat.le_of_ble_eq_true rfl, Nat.le_of_ble_eq_true rfl⟩) (fun zi75 hp71 H locs hq74 hw hS => ?_)
    obtain ⟨ok72, F73⟩ := hq74
    obtain rfl : hp0 = hp71 := (Fr.nil F73).symm
    have hw : PW G cy K ln Ls A hp0 H := hw
    rw [hQ]
    exact kz_i hx hb hr hlocks hS rfl hp0 hw ⟨ok0, (Fr.rf)⟩ (Nat.le_of_ble_eq_true rfl) (Nat.le_of_ble_eq_true rfl) dX12_count_113
  by_cases cn6 : zi901 = 5
  · skip
    refine lv_tableIn (tgt := 114) hx hb dX12_count_1 (by rw [cn6]; decide) (by rw [cn6]; decide) (by rw [cn6]; rfl) (by decide) ?_
    have bd76 : (5 : Int) ≤ zi901.toInt ∧ zi901.toInt ≤ 5 := r_eq_x cn6 (b_all zi901) bc_5 (by decide) (by decide)
    refine lv_aload_n hx hb dX12_count_114 rfl (lv_at hl 0 rfl) ?_
    obtain ⟨qa78, eq77, kd79⟩ := rd_13049 ok0 kd900
    refine p_get (ci := 12) (v := .ref qa78) (C := RX12) (T := TX12) (N := 69) hx hb hT iw_X12 hown hK hw hW kd900 (by decide) rfl rfl 49 (by decide) eq77 (hT _ tb_1423) (fun _ h9 => h9) dX12_count_115 ?_
    refine lv_iconst (v := 1) hx hb dX12_count_118 (by decide) ?_
    obtain ⟨zi81, eq80⟩ := rd_92000 ok0 kd79 ((1 : Int32).toNatClampNeg)
    refine p_iald (v := zi81) hx hb hK hw hW kd79 (by decide) rfl (hW.len kd79 (n := 40) rfl (by decide)) (vp_b bc_1 (by decide) (by decide)) eq80 dX12_count_119 ?_
    refine kq_i hw hS hA (va_runS (As := [.int zi81]) (rest := []) ⟨hx, hb, hml, hown, hT⟩ (cX12_bits_0 l G cy ev K ln Ls hW _ hp0 ok0 zi81) (va_cwS 1 hT (good_S tb_1776 tb_1774 tb_1775 tb_122) rfl rfl rfl (by decide +kernel) ⟨Nat.le_of_ble_eq_true rfl, Nat.le_of_ble_eq_true rfl⟩) (PB2.preS hK hE hS hA hw) rfl rfl hl.1 rfl (lv_room (Nat.le_of_ble_eq_true rfl)) dX12_count_120 ⟨Nat.le_of_ble_eq_true rfl, Nat.le_of_ble_eq_true rfl⟩) (fun zi86 hp82 H locs hq85 hw hS => ?_)
    obtain ⟨ok83, F84⟩ := hq85
    obtain rfl : hp0 = hp82 := (Fr.nil F84).symm
    have hw : PW G cy K ln Ls A hp0 H := hw
    rw [hQ]
    exact kz_i hx hb hr hlocks hS rfl hp0 hw ⟨ok0, (Fr.rf)⟩ (Nat.le_of_ble_eq_true rfl) (Nat.le_of_ble_eq_true rfl) dX12_count_123
  by_cases cn7 : zi901 = 6
  · skip
    refine lv_tableIn (tgt := 124) hx hb dX12_count_1 (by rw [cn7]; decide) (by rw [cn7]; decide) (by rw [cn7]; rfl) (by decide) ?_
    have bd87 : (6 : Int) ≤ zi901.toInt ∧ zi901.toInt ≤ 6 := r_eq_x cn7 (b_all zi901) bc_6 (by decide) (by decide)
    refine lv_aload_n hx hb dX12_count_124 rfl (lv_at hl 0 rfl) ?_
    obtain ⟨qa89, eq88, kd90⟩ := rd_13049 ok0 kd900
    refine p_get (ci := 12) (v := .ref qa89) (C := RX12) (T := TX12) (N := 69) hx hb hT iw_X12 hown hK hw hW kd900 (by decide) rfl rfl 49 (by decide) eq88 (hT _ tb_1423) (fun _ h9 => h9) dX12_count_125 ?_
    refine lv_iconst (v := 2) hx hb dX12_count_128 (by decide) ?_
    obtain ⟨zi92, eq91⟩ := rd_92000 ok0 kd90 ((2 : Int32).toNatClampNeg)
    refine p_iald (v := zi92) hx hb hK hw hW kd90 (by decide) rfl (hW.len kd90 (n := 40) rfl (by decide)) (vp_b bc_2 (by decide) (by decide)) eq91 dX12_count_129 ?_
    refine kq_i hw hS hA (va_runS (As := [.int zi92]) (rest := []) ⟨hx, hb, hml, hown, hT⟩ (cX12_bits_0 l G cy ev K ln Ls hW _ hp0 ok0 zi92) (va_cwS 1 hT (good_S tb_1776 tb_1774 tb_1775 tb_122) rfl rfl rfl (by decide +kernel) ⟨Nat.le_of_ble_eq_true rfl, Nat.le_of_ble_eq_true rfl⟩) (PB2.preS hK hE hS hA hw) rfl rfl hl.1 rfl (lv_room (Nat.le_of_ble_eq_true rfl)) dX12_count_130 ⟨Nat.le_of_ble_eq_true rfl, Nat.le_of_ble_eq_true rfl⟩) (fun zi97 hp93 H locs hq96 hw hS => ?_)
    obtain ⟨ok94, F95⟩ := hq96
    obtain rfl : hp0 = hp93 := (Fr.nil F95).symm
    have hw : PW G cy K ln Ls A hp0 H := hw
    rw [hQ]
    exact kz_i hx hb hr hlocks hS rfl hp0 hw ⟨ok0, (Fr.rf)⟩ (Nat.le_of_ble_eq_true rfl) (Nat.le_of_ble_eq_true rfl) dX12_count_133
  by_cases cn8 : zi901 = 7
  · skip
    refine lv_tableIn (tgt := 134) hx hb dX12_count_1 (by rw [cn8]; decide) (by rw [cn8]; decide) (by rw [cn8]; rfl) (by decide) ?_
    have bd98 : (7 : Int) ≤ zi901.toInt ∧ zi901.toInt ≤ 7 := r_eq_x cn8 (b_all zi901) bc_7 (by decide) (by decide)
    refine lv_aload_n hx hb dX12_count_134 rfl (lv_at hl 0 rfl) ?_
    refine kq_v hw hS hA (va_runV (As := []) (rest := []) ⟨hx, hb, hml, hown, hT⟩ (cX12_copies_0 l G cy ev K ln Ls hW _ hp0 ok0 qa900 kd900) (cwV 0 hT (good_V tb_1769 tb_1766 tb_1768 tb_81 tb_122) rfl rfl rfl (by decide +kernel) ⟨Nat.le_of_ble_eq_true rfl, Nat.le_of_ble_eq_true rfl⟩) (pool_preV (ci := 12) hK hE hS hA hw hW kd900 (by decide) rfl) rfl rfl hl.1 rfl (lv_room (Nat.le_of_ble_eq_true rfl)) dX12_count_135 ⟨Nat.le_of_ble_eq_true rfl, Nat.le_of_ble_eq_true rfl⟩) (fun hp99 H locs hq102 hw hS => ?_)
    obtain ⟨ok100, F101⟩ := hq102
    have hw : PW G cy K ln Ls A hp99 H := hw
    refine lv_aload_n hx hb dX12_count_138 rfl (lv_at hl 0 rfl) ?_
    refine kq_i hw hS hA (va_runV (As := []) (rest := []) ⟨hx, hb, hml, hown, hT⟩ (cX12_heardAll_0 l G cy ev K ln Ls hW _ hp99 ok100 qa900 kd900) (cwV 0 hT (good_V tb_1822 tb_1819 tb_1821 tb_90 tb_122) rfl rfl rfl (by decide +kernel) ⟨Nat.le_of_ble_eq_true rfl, Nat.le_of_ble_eq_true rfl⟩) (pool_preV (ci := 12) hK hE hS hA hw hW kd900 (by decide) rfl) rfl rfl hl.1 rfl (lv_room (Nat.le_of_ble_eq_true rfl)) dX12_count_139 ⟨Nat.le_of_ble_eq_true rfl, Nat.le_of_ble_eq_true rfl⟩) (fun zi108 hp104 H locs hq107 hw hS => ?_)
    obtain ⟨ok105, F106⟩ := hq107
    obtain rfl : hp99 = hp104 := (Fr.nil F106).symm
    have hw : PW G cy K ln Ls A hp99 H := hw
    rw [hQ]
    exact kz_i hx hb hr hlocks hS rfl hp99 hw ⟨ok100, (Fr.tr (Fr.rf) F101 (by decide))⟩ (Nat.le_of_ble_eq_true rfl) (Nat.le_of_ble_eq_true rfl) dX12_count_142
  by_cases cn9 : zi901 = 8
  · skip
    refine lv_tableIn (tgt := 143) hx hb dX12_count_1 (by rw [cn9]; decide) (by rw [cn9]; decide) (by rw [cn9]; rfl) (by decide) ?_
    have bd109 : (8 : Int) ≤ zi901.toInt ∧ zi901.toInt ≤ 8 := r_eq_x cn9 (b_all zi901) bc_8 (by decide) (by decide)
    refine lv_aload_n hx hb dX12_count_143 rfl (lv_at hl 0 rfl) ?_
    obtain ⟨zi111, eq110, bd112⟩ := rd_13061 ok0 kd900
    refine p_get (ci := 12) (v := .int zi111) (C := RX12) (T := TX12) (N := 69) hx hb hT iw_X12 hown hK hw hW kd900 (by decide) rfl rfl 61 (by decide) eq110 (hT _ tb_1435) (fun _ h9 => h9) dX12_count_144 ?_
    rw [hQ]
    exact kz_i hx hb hr hlocks hS rfl hp0 hw ⟨ok0, (Fr.rf)⟩ (Nat.le_of_ble_eq_true rfl) (Nat.le_of_ble_eq_true rfl) dX12_count_147
  by_cases cn10 : zi901 = 9
  · skip
    refine lv_tableIn (tgt := 148) hx hb dX12_count_1 (by rw [cn10]; decide) (by rw [cn10]; decide) (by rw [cn10]; rfl) (by decide) ?_
    have bd113 : (9 : Int) ≤ zi901.toInt ∧ zi901.toInt ≤ 9 := r_eq_x cn10 (b_all zi901) bc_9 (by decide) (by decide)
    refine lv_aload_n hx hb dX12_count_148 rfl (lv_at hl 0 rfl) ?_
    obtain ⟨zi115, eq114, bd116⟩ := rd_13002 ok0 kd900
    refine p_get (ci := 12) (v := .int zi115) (C := RX12) (T := TX12) (N := 69) hx hb hT iw_X12 hown hK hw hW kd900 (by decide) rfl rfl 2 (by decide) eq114 (hT _ tb_1376) (fun _ h9 => h9) dX12_count_149 ?_
    rw [hQ]
    exact kz_i hx hb hr hlocks hS rfl hp0 hw ⟨ok0, (Fr.rf)⟩ (Nat.le_of_ble_eq_true rfl) (Nat.le_of_ble_eq_true rfl) dX12_count_152
  by_cases cn11 : zi901 = 10
  · skip
    refine lv_tableIn (tgt := 153) hx hb dX12_count_1 (by rw [cn11]; decide) (by rw [cn11]; decide) (by rw [cn11]; rfl) (by decide) ?_
    have bd117 : (10 : Int) ≤ zi901.toInt ∧ zi901.toInt ≤ 10 := r_eq_x cn11 (b_all zi901) bc_10 (by decide) (by decide)
    refine lv_aload_n hx hb dX12_count_153 rfl (lv_at hl 0 rfl) ?_
    obtain ⟨zi119, eq118, bd120⟩ := rd_13053 ok0 kd900
    refine p_get (ci := 12) (v := .int zi119) (C := RX12) (T := TX12) (N := 69) hx hb hT iw_X12 hown hK hw hW kd900 (by decide) rfl rfl 53 (by decide) eq118 (hT _ tb_1427) (fun _ h9 => h9) dX12_count_154 ?_
    rw [hQ]
    exact kz_i hx hb hr hlocks hS rfl hp0 hw ⟨ok0, (Fr.rf)⟩ (Nat.le_of_ble_eq_true rfl) (Nat.le_of_ble_eq_true rfl) dX12_count_157
  by_cases cn12 : zi901 = 11
  · skip
    refine lv_tableIn (tgt := 158) hx hb dX12_count_1 (by rw [cn12]; decide) (by rw [cn12]; decide) (by rw [cn12]; rfl) (by decide) ?_
    have bd121 : (11 : Int) ≤ zi901.toInt ∧ zi901.toInt ≤ 11 := r_eq_x cn12 (b_all zi901) bc_11 (by decide) (by decide)
    refine lv_aload_n hx hb dX12_count_158 rfl (lv_at hl 0 rfl) ?_
    obtain ⟨qa123, eq122, kd124⟩ := rd_13067 ok0 kd900
    refine p_get (ci := 12) (v := .ref qa123) (C := RX12) (T := TX12) (N := 69) hx hb hT iw_X12 hown hK hw hW kd900 (by decide) rfl rfl 67 (by decide) eq122 (hT _ tb_1441) (fun _ h9 => h9) dX12_count_159 ?_
    refine lv_iconst (v := 0) hx hb dX12_count_162 (by decide) ?_
    obtain ⟨zi126, eq125, bd127⟩ := rd_101000 ok0 kd124 ((0 : Int32).toNatClampNeg)
    refine p_zald (v := zi126) hx hb hK hw hW kd124 (by decide) rfl (hW.len kd124 (n := 3) rfl (by decide)) (vp_b bc_0 (by decide) (by decide)) eq125 dX12_count_163 ?_
    have jn133 : ∀ (zi131 : Int32) (H : Heap) (locs : List Loc) (ls : Array Slot), ((0 : Int) ≤ zi131.toInt ∧ zi131.toInt ≤ 1) → lv_has ls 2 [(0, .ref qa900)] → PW G cy K ln Ls A hp0 H → va_S A s.heap H locs → W p l e ({ frames := 1, cells := 0, slots := 0, locals := 22 } : Room) s m ([.ref qa900, .int zi901] : List Value).toArray below meth c H locs 0 0 Q (F0 m 172 ls [.int zi131]) := by
      intro zi131 H locs ls bd132 hl hw hS
      refine lv_aload_n hx hb dX12_count_172 rfl (lv_at hl 0 rfl) ?_
      refine p_get (ci := 12) (v := .ref qa123) (C := RX12) (T := TX12) (N := 69) hx hb hT iw_X12 hown hK hw hW kd900 (by decide) rfl rfl 67 (by decide) eq122 (hT _ tb_1441) (fun _ h9 => h9) dX12_count_173 ?_
      refine lv_iconst (v := 1) hx hb dX12_count_176 (by decide) ?_
      obtain ⟨zi135, eq134, bd136⟩ := rd_101000 ok0 kd124 ((1 : Int32).toNatClampNeg)
      refine p_zald (v := zi135) hx hb hK hw hW kd124 (by decide) rfl (hW.len kd124 (n := 3) rfl (by decide)) (vp_b bc_1 (by decide) (by decide)) eq134 dX12_count_177 ?_
      have jn142 : ∀ (zi140 : Int32) (H : Heap) (locs : List Loc) (ls : Array Slot), ((0 : Int) ≤ zi140.toInt ∧ zi140.toInt ≤ 1) → lv_has ls 2 [(0, .ref qa900)] → PW G cy K ln Ls A hp0 H → va_S A s.heap H locs → W p l e ({ frames := 1, cells := 0, slots := 0, locals := 22 } : Room) s m ([.ref qa900, .int zi901] : List Value).toArray below meth c H locs 0 0 Q (F0 m 186 ls [.int zi140, .int zi131]) := by
        intro zi140 H locs ls bd141 hl hw hS
        refine lv_iadd hx hb dX12_count_186 (lv_topi (fun zi143 ea144 => ?_))
        have bd145 : (0 : Int) ≤ zi143.toInt ∧ zi143.toInt ≤ 2 := b_iadd ea144 bd132 bd141 (by decide) (by decide) (by decide) (by decide)
        refine lv_aload_n hx hb dX12_count_187 rfl (lv_at hl 0 rfl) ?_
        refine p_get (ci := 12) (v := .ref qa123) (C := RX12) (T := TX12) (N := 69) hx hb hT iw_X12 hown hK hw hW kd900 (by decide) rfl rfl 67 (by decide) eq122 (hT _ tb_1441) (fun _ h9 => h9) dX12_count_188 ?_
        refine lv_iconst (v := 2) hx hb dX12_count_191 (by decide) ?_
        obtain ⟨zi147, eq146, bd148⟩ := rd_101000 ok0 kd124 ((2 : Int32).toNatClampNeg)
        refine p_zald (v := zi147) hx hb hK hw hW kd124 (by decide) rfl (hW.len kd124 (n := 3) rfl (by decide)) (vp_b bc_2 (by decide) (by decide)) eq146 dX12_count_192 ?_
        have jn154 : ∀ (zi152 : Int32) (H : Heap) (locs : List Loc) (ls : Array Slot), ((0 : Int) ≤ zi152.toInt ∧ zi152.toInt ≤ 1) → lv_has ls 2 [] → PW G cy K ln Ls A hp0 H → va_S A s.heap H locs → W p l e ({ frames := 1, cells := 0, slots := 0, locals := 22 } : Room) s m ([.ref qa900, .int zi901] : List Value).toArray below meth c H locs 0 0 Q (F0 m 201 ls [.int zi152, .int zi143]) := by
          intro zi152 H locs ls bd153 hl hw hS
          refine lv_iadd hx hb dX12_count_201 (lv_topi (fun zi155 ea156 => ?_))
          have bd157 : (0 : Int) ≤ zi155.toInt ∧ zi155.toInt ≤ 3 := b_iadd ea156 bd145 bd153 (by decide) (by decide) (by decide) (by decide)
          rw [hQ]
          exact kz_i hx hb hr hlocks hS rfl hp0 hw ⟨ok0, (Fr.rf)⟩ (Nat.le_of_ble_eq_true rfl) (Nat.le_of_ble_eq_true rfl) dX12_count_202
        refine lv_if_eq (tgt := 200) hx hb dX12_count_193 (by decide) (fun cn149 => ?_) (fun cn149 => ?_)
        · skip
          have bd158 : (0 : Int) ≤ zi147.toInt ∧ zi147.toInt ≤ 0 := r_eq_x cn149 bd148 bc_0 (by decide) (by decide)
          refine lv_iconst (v := 0) hx hb dX12_count_200 (by decide) ?_
          exact jn154 0 _ _ ls (b_wid2 bc_0 (by decide) (by decide)) (lv_sub hl [] rfl) hw hS
        · skip
          have bd159 : (1 : Int) ≤ zi147.toInt ∧ zi147.toInt ≤ 1 := r_ne_lo cn149 bd148 (toi bc_0) (by decide) (by decide)
          refine lv_iconst (v := 1) hx hb dX12_count_196 (by decide) ?_
          refine lv_goto (tgt := 201) hx hb dX12_count_197 (by decide) ?_
          exact jn154 1 _ _ ls (b_wid2 bc_1 (by decide) (by decide)) (lv_sub hl [] rfl) hw hS
      refine lv_if_eq (tgt := 185) hx hb dX12_count_178 (by decide) (fun cn137 => ?_) (fun cn137 => ?_)
      · skip
        have bd160 : (0 : Int) ≤ zi135.toInt ∧ zi135.toInt ≤ 0 := r_eq_x cn137 bd136 bc_0 (by decide) (by decide)
        refine lv_iconst (v := 0) hx hb dX12_count_185 (by decide) ?_
        exact jn142 0 _ _ ls (b_wid2 bc_0 (by decide) (by decide)) (lv_sub hl [0] rfl) hw hS
      · skip
        have bd161 : (1 : Int) ≤ zi135.toInt ∧ zi135.toInt ≤ 1 := r_ne_lo cn137 bd136 (toi bc_0) (by decide) (by decide)
        refine lv_iconst (v := 1) hx hb dX12_count_181 (by decide) ?_
        refine lv_goto (tgt := 186) hx hb dX12_count_182 (by decide) ?_
        exact jn142 1 _ _ ls (b_wid2 bc_1 (by decide) (by decide)) (lv_sub hl [0] rfl) hw hS
    refine lv_if_eq (tgt := 171) hx hb dX12_count_164 (by decide) (fun cn128 => ?_) (fun cn128 => ?_)
    · skip
      have bd162 : (0 : Int) ≤ zi126.toInt ∧ zi126.toInt ≤ 0 := r_eq_x cn128 bd127 bc_0 (by decide) (by decide)
      refine lv_iconst (v := 0) hx hb dX12_count_171 (by decide) ?_
      exact jn133 0 _ _ ls (b_wid2 bc_0 (by decide) (by decide)) (lv_sub hl [0] rfl) hw hS
    · skip
      have bd163 : (1 : Int) ≤ zi126.toInt ∧ zi126.toInt ≤ 1 := r_ne_lo cn128 bd127 (toi bc_0) (by decide) (by decide)
      refine lv_iconst (v := 1) hx hb dX12_count_167 (by decide) ?_
      refine lv_goto (tgt := 172) hx hb dX12_count_168 (by decide) ?_
      exact jn133 1 _ _ ls (b_wid2 bc_1 (by decide) (by decide)) (lv_sub hl [0] rfl) hw hS
  have nn13 : zi901.toInt ≠ 0 := fun e => cn1 (Int32.toInt_inj.mp (e.trans (by decide)))
  have nn14 : zi901.toInt ≠ 1 := fun e => cn2 (Int32.toInt_inj.mp (e.trans (by decide)))
  have nn15 : zi901.toInt ≠ 2 := fun e => cn3 (Int32.toInt_inj.mp (e.trans (by decide)))
  have nn16 : zi901.toInt ≠ 3 := fun e => cn4 (Int32.toInt_inj.mp (e.trans (by decide)))
  have nn17 : zi901.toInt ≠ 4 := fun e => cn5 (Int32.toInt_inj.mp (e.trans (by decide)))
  have nn18 : zi901.toInt ≠ 5 := fun e => cn6 (Int32.toInt_inj.mp (e.trans (by decide)))
  have nn19 : zi901.toInt ≠ 6 := fun e => cn7 (Int32.toInt_inj.mp (e.trans (by decide)))
  have nn20 : zi901.toInt ≠ 7 := fun e => cn8 (Int32.toInt_inj.mp (e.trans (by decide)))
  have nn21 : zi901.toInt ≠ 8 := fun e => cn9 (Int32.toInt_inj.mp (e.trans (by decide)))
  have nn22 : zi901.toInt ≠ 9 := fun e => cn10 (Int32.toInt_inj.mp (e.trans (by decide)))
  have nn23 : zi901.toInt ≠ 10 := fun e => cn11 (Int32.toInt_inj.mp (e.trans (by decide)))
  have nn24 : zi901.toInt ≠ 11 := fun e => cn12 (Int32.toInt_inj.mp (e.trans (by decide)))
  refine lv_tableOut (tgt := 203) hx hb dX12_count_1 (by have := (b_all zi901); omega) (by decide) ?_
  refine lv_iconst (v := (-1)) hx hb dX12_count_203 (by decide) ?_
  rw [hQ]
  exact kz_i hx hb hr hlocks hS rfl hp0 hw ⟨ok0, (Fr.rf)⟩ (Nat.le_of_ble_eq_true rfl) (Nat.le_of_ble_eq_true rfl) dX12_count_204
