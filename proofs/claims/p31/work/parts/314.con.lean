set_option maxRecDepth 100000 in
set_option maxHeartbeats 4000000 in
theorem cX3_grow_vGM_0 (l : Launch) (G : va_G) (cy : Nat → ClassId) (ev : Ew) (K ln : Nat → Nat) (Ls : List Nat) (hW : SW K ln Ls) (sz : Nat) (hp0 : Nat → Nat → Value) (ok0 : Ok K hp0) (qa900 : Nat) (gn : Nat) (kd900 : K qa900 = 4) (pdNS : NSx K ln hp0 gn) (xp0 : 131072 < 2 * gn) : Met l yX3_grow (WS yX3_grow cX3_grow 3 none) { frames := 0, cells := 0, slots := 0, locals := 0 } (PB2 [.ref qa900] sz G cy ev (va_pl Ls (cellOf cy K ln hp0))) (QBv (S := (Nat → Nat → Value)) (fun u : (Nat → Nat → Value) => Ok K u ∧ Fr [] K hp0 u) G (fun u => va_pl Ls (cellOf cy K ln u)) (va_A (va_pl Ls (cellOf cy K ln hp0)) sz)) 0 0 (va_A (va_pl Ls (cellOf cy K ln hp0)) sz) := by
  refine met_of2 (y := yX3_grow) (L := 3) (av := [.ref qa900]) (Qc := fun A => QBv (S := (Nat → Nat → Value)) (fun u : (Nat → Nat → Value) => Ok K u ∧ Fr [] K hp0 u) G (fun u => va_pl Ls (cellOf cy K ln u)) A) (plainFor_of_name (by decide)) (Nat.le_of_ble_eq_true rfl) ?_
  intro p e s m below meth c hsz hx hb hr hml hown hT hlocks hin hK A hA hE hw hS ls hl
  have hw : PW G cy K ln Ls A hp0 s.heap := hw
  have hown : s.vm.findClass "LieClock$Nodes" = some m.cls := hown
  have hl : lv_has ls 3 [(0, .ref qa900)] := hl
  obtain ⟨Q, hQ⟩ : ∃ Q : State → Prop, Q = MQ below (QBv (S := (Nat → Nat → Value)) (fun u : (Nat → Nat → Value) => Ok K u ∧ Fr [] K hp0 u) G (fun u => va_pl Ls (cellOf cy K ln u)) A) ([.ref qa900] : List Value).toArray s 0 0 A := ⟨_, rfl⟩
  rw [← hQ]
  have hgn := NSx.bd pdNS
  refine lv_iconst (v := 2) hx hb dX3_grow_0 (by decide) ?_
  refine lv_aload_n hx hb dX3_grow_1 rfl (lv_at hl 0 rfl) ?_
  obtain ⟨qa2, eq1, kd3⟩ := rd_4000 ok0 kd900
  have ln4 := (pdNS).ref kd900 (by decide) eq1
  refine p_get (ci := 3) (v := .ref qa2) (C := RX3) (T := TX3) (N := 7) hx hb hT iw_X3 hown hK hw hW kd900 (by decide) rfl rfl 0 (by decide) eq1 (hT _ tb_492) (fun _ h9 => h9) dX3_grow_2 ?_
  obtain ⟨zi5, ez6⟩ : ∃ z : Int32, Int32.ofNat (ln qa2) = z := ⟨_, rfl⟩
  refine p_alen (v := zi5) hx hb hK hw hW kd3 (by decide) rfl rfl ez6 dX3_grow_5 ?_
  have hl7 : zi5.toInt = (gn : Nat) := by have h9 := ofNat_len ez6 (by rw [ln4]; omega); rw [ln4] at h9; exact h9
  have bd8 : (256 : Int) ≤ zi5.toInt ∧ zi5.toInt ≤ 131072 := (by omega)
  refine lv_imul hx hb dX3_grow_6 (lv_topi (fun zi9 ea10 => ?_))
  have bd11 : (512 : Int) ≤ zi9.toInt ∧ zi9.toInt ≤ 262144 := b_imul ea10 bc_2 bd8 (by decide) (by decide) (by decide) (by decide) (by decide)
  have qe12 : zi9.toInt = (2 : Int32).toInt * (zi5 : Int32).toInt := e_imul (b := 2) (d := 131072) ea10 (b_wid2 bc_2 (by decide) (by decide)) (b_wid2 bd8 (by decide) (by decide)) (by decide)
  have qe13 : zi9.toInt = 2 * zi5.toInt := by have ha : (2 : Int32).toInt = 2 := (by decide); rw [ha] at qe12; exact qe12
  refine lv_istore_n (lv' := [(1, .int zi9), (0, .ref qa900)]) hx hb dX3_grow_7 rfl hl (by decide) rfl (fun ls hl => ?_)
  refine lv_iload_n hx hb dX3_grow_8 rfl (lv_at hl 0 rfl) ?_
  refine lv_ldc (v := 131072) hx hb hown (hT _ tb_1160) dX3_grow_9 ?_
  refine lv_icmp_le (tgt := 15) hx hb dX3_grow_11 (by decide) (fun cn14 => ?_) (fun cn14 => ?_)
  · skip
    have bd15 : (512 : Int) ≤ zi9.toInt ∧ zi9.toInt ≤ 131072 := r_le_x cn14 bd11 bc_131072 (by decide) (by decide)
    exact False.elim (by omega)
  · skip
    have bd16 : (131073 : Int) ≤ zi9.toInt ∧ zi9.toInt ≤ 262144 := r_lt_y (Int32.not_le.mp cn14) bc_131072 bd11 (by decide) (by decide)
    rw [hQ]
    exact kz_v hx hb hr hlocks hS hp0 hw ⟨ok0, (Fr.rf)⟩ (Nat.le_of_ble_eq_true rfl) (Nat.le_of_ble_eq_true rfl) dX3_grow_14

set_option maxRecDepth 100000 in
set_option maxHeartbeats 4000000 in
theorem cX0_canCome_0 (l : Launch) (G : va_G) (cy : Nat → ClassId) (ev : Ew) (K ln : Nat → Nat) (Ls : List Nat) (hW : SW K ln Ls) (sz : Nat) (hp0 : Nat → Nat → Value) (ok0 : Ok K hp0) (zi900 : Int32) (zi901 : Int32)  : Met l yX0_canCome (WS yX0_canCome cX0_canCome 2 (some .boolean)) { frames := 0, cells := 0, slots := 0, locals := 0 } (PB2 [.int zi900, .int zi901] sz G cy ev (va_pl Ls (cellOf cy K ln hp0))) (QBi (S := (Nat → Nat → Value)) (fun (r : Int32) (u : (Nat → Nat → Value)) => Ok K u ∧ Fr [] K hp0 u ∧ ((0 : Int) ≤ r.toInt ∧ r.toInt ≤ 1)) G (fun u => va_pl Ls (cellOf cy K ln u)) (va_A (va_pl Ls (cellOf cy K ln hp0)) sz)) 0 0 (va_A (va_pl Ls (cellOf cy K ln hp0)) sz) := by
  refine met_of2 (y := yX0_canCome) (L := 2) (av := [.int zi900, .int zi901]) (Qc := fun A => QBi (S := (Nat → Nat → Value)) (fun (r : Int32) (u : (Nat → Nat → Value)) => Ok K u ∧ Fr [] K hp0 u ∧ ((0 : Int) ≤ r.toInt ∧ r.toInt ≤ 1)) G (fun u => va_pl Ls (cellOf cy K ln u)) A) (plainFor_of_name (by decide)) (Nat.le_of_ble_eq_true rfl) ?_
  intro p e s m below meth c hsz hx hb hr hml hown hT hlocks hin hK A hA hE hw hS ls hl
  have hw : PW G cy K ln Ls A hp0 s.heap := hw
  have hown : s.vm.findClass "LieClock$Ahead" = some m.cls := hown
  have hl : lv_has ls 2 [(0, .int zi900), (1, .int zi901)] := hl
  obtain ⟨Q, hQ⟩ : ∃ Q : State → Prop, Q = MQ below (QBi (S := (Nat → Nat → Value)) (fun (r : Int32) (u : (Nat → Nat → Value)) => Ok K u ∧ Fr [] K hp0 u ∧ ((0 : Int) ≤ r.toInt ∧ r.toInt ≤ 1)) G (fun u => va_pl Ls (cellOf cy K ln u)) A) ([.int zi900, .int zi901] : List Value).toArray s 0 0 A := ⟨_, rfl⟩
  rw [← hQ]
  refine lv_iload_n hx hb dX0_canCome_0 rfl (lv_at hl 0 rfl) ?_
  refine lv_iload_n hx hb dX0_canCome_1 rfl (lv_at hl 1 rfl) ?_
  refine lv_bipush (v := 121) hx hb dX0_canCome_2 (by decide) ?_
  refine lv_imul hx hb dX0_canCome_4 (lv_topi (fun zi1 ea2 => ?_))
  refine lv_icmp_gt (tgt := 21) hx hb dX0_canCome_5 (by decide) (fun cn3 => ?_) (fun cn3 => ?_)
  · skip
    have bd4 : (-2147483648 : Int) ≤ zi1.toInt ∧ zi1.toInt ≤ 2147483646 := r_lt_x cn3 (b_all zi1) (b_all zi900) (by decide) (by decide)
    have bd5 : (-2147483647 : Int) ≤ zi900.toInt ∧ zi900.toInt ≤ 2147483647 := r_lt_y cn3 (b_all zi1) (b_all zi900) (by decide) (by decide)
    refine lv_iconst (v := 0) hx hb dX0_canCome_21 (by decide) ?_
    rw [hQ]
    exact kz_i hx hb hr hlocks hS (nz_n bc_0 (by decide) (by decide)) hp0 hw ⟨ok0, (Fr.rf), (b_wid2 bc_0 (by decide) (by decide))⟩ (Nat.le_of_ble_eq_true rfl) (Nat.le_of_ble_eq_true rfl) dX0_canCome_22
  · skip
    refine lv_iload_n hx hb dX0_canCome_8 rfl (lv_at hl 1 rfl) ?_
    refine lv_iconst (v := 1) hx hb dX0_canCome_9 (by decide) ?_
    refine lv_icmp_gt (tgt := 17) hx hb dX0_canCome_10 (by decide) (fun cn6 => ?_) (fun cn6 => ?_)
    · skip
      have bd7 : (2 : Int) ≤ zi901.toInt ∧ zi901.toInt ≤ 2147483647 := r_lt_y cn6 bc_1 (b_all zi901) (by decide) (by decide)
      refine lv_iconst (v := 1) hx hb dX0_canCome_17 (by decide) ?_
      refine lv_goto (tgt := 22) hx hb dX0_canCome_18 (by decide) ?_
      rw [hQ]
      exact kz_i hx hb hr hlocks hS (nz_n bc_1 (by decide) (by decide)) hp0 hw ⟨ok0, (Fr.rf), (b_wid2 bc_1 (by decide) (by decide))⟩ (Nat.le_of_ble_eq_true rfl) (Nat.le_of_ble_eq_true rfl) dX0_canCome_22
    · skip
      have bd8 : (-2147483648 : Int) ≤ zi901.toInt ∧ zi901.toInt ≤ 1 := r_le_x (Int32.not_lt.mp cn6) (b_all zi901) bc_1 (by decide) (by decide)
      refine lv_iload_n hx hb dX0_canCome_13 rfl (lv_at hl 0 rfl) ?_
      refine lv_if_le (tgt := 21) hx hb dX0_canCome_14 (by decide) (fun cn9 => ?_) (fun cn9 => ?_)
      · skip
        have bd10 : (-2147483648 : Int) ≤ zi900.toInt ∧ zi900.toInt ≤ 0 := r_le_x cn9 (b_all zi900) bc_0 (by decide) (by decide)
        refine lv_iconst (v := 0) hx hb dX0_canCome_21 (by decide) ?_
        rw [hQ]
        exact kz_i hx hb hr hlocks hS (nz_n bc_0 (by decide) (by decide)) hp0 hw ⟨ok0, (Fr.rf), (b_wid2 bc_0 (by decide) (by decide))⟩ (Nat.le_of_ble_eq_true rfl) (Nat.le_of_ble_eq_true rfl) dX0_canCome_22
      · skip
        have bd11 : (1 : Int) ≤ zi900.toInt ∧ zi900.toInt ≤ 2147483647 := r_lt_y (Int32.not_le.mp cn9) bc_0 (b_all zi900) (by decide) (by decide)
        refine lv_iconst (v := 1) hx hb dX0_canCome_17 (by decide) ?_
        refine lv_goto (tgt := 22) hx hb dX0_canCome_18 (by decide) ?_
        rw [hQ]
        exact kz_i hx hb hr hlocks hS (nz_n bc_1 (by decide) (by decide)) hp0 hw ⟨ok0, (Fr.rf), (b_wid2 bc_1 (by decide) (by decide))⟩ (Nat.le_of_ble_eq_true rfl) (Nat.le_of_ble_eq_true rfl) dX0_canCome_22
