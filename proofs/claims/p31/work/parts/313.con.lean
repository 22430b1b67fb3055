set_option maxRecDepth 100000 in
set_option maxHeartbeats 4000000 in
theorem cX3_freeSlot_0 (l : Launch) (G : va_G) (cy : Nat → ClassId) (ev : Ew) (K ln : Nat → Nat) (Ls : List Nat) (hW : SW K ln Ls) (sz : Nat) (hp0 : Nat → Nat → Value) (ok0 : Ok K hp0) (qa900 : Nat) (zi901 : Int32) (gn : Nat) (kd900 : K qa900 = 4) (pdNS : NSx K ln hp0 gn) : Met l yX3_freeSlot (WS yX3_freeSlot cX3_freeSlot 4 (some .int)) { frames := 0, cells := 0, slots := 0, locals := 0 } (PB2 [.ref qa900, .int zi901] sz G cy ev (va_pl Ls (cellOf cy K ln hp0))) (QBi (S := (Nat → Nat → Value)) (fun (r : Int32) (u : (Nat → Nat → Value)) => Ok K u ∧ Fr [] K hp0 u ∧ ((0 : Int) ≤ r.toInt ∧ r.toInt ≤ 262143) ∧ (r.toInt < 2 * (gn : Int))) G (fun u => va_pl Ls (cellOf cy K ln u)) (va_A (va_pl Ls (cellOf cy K ln hp0)) sz)) 0 0 (va_A (va_pl Ls (cellOf cy K ln hp0)) sz) := by
  refine met_of2 (y := yX3_freeSlot) (L := 4) (av := [.ref qa900, .int zi901]) (Qc := fun A => QBi (S := (Nat → Nat → Value)) (fun (r : Int32) (u : (Nat → Nat → Value)) => Ok K u ∧ Fr [] K hp0 u ∧ ((0 : Int) ≤ r.toInt ∧ r.toInt ≤ 262143) ∧ (r.toInt < 2 * (gn : Int))) G (fun u => va_pl Ls (cellOf cy K ln u)) A) (plainFor_of_name (by decide)) (Nat.le_of_ble_eq_true rfl) ?_
  intro p e s m below meth c hsz hx hb hr hml hown hT hlocks hin hK A hA hE hw hS ls hl
  have hw : PW G cy K ln Ls A hp0 s.heap := hw
  have hown : s.vm.findClass "LieClock$Nodes" = some m.cls := hown
  have hl : lv_has ls 4 [(0, .ref qa900), (1, .int zi901)] := hl
  obtain ⟨Q, hQ⟩ : ∃ Q : State → Prop, Q = MQ below (QBi (S := (Nat → Nat → Value)) (fun (r : Int32) (u : (Nat → Nat → Value)) => Ok K u ∧ Fr [] K hp0 u ∧ ((0 : Int) ≤ r.toInt ∧ r.toInt ≤ 262143) ∧ (r.toInt < 2 * (gn : Int))) G (fun u => va_pl Ls (cellOf cy K ln u)) A) ([.ref qa900, .int zi901] : List Value).toArray s 0 0 A := ⟨_, rfl⟩
  rw [← hQ]
  have hgn := NSx.bd pdNS
  refine lv_aload_n hx hb dX3_freeSlot_0 rfl (lv_at hl 0 rfl) ?_
  obtain ⟨qa2, eq1, kd3⟩ := rd_4005 ok0 kd900
  have ln4 := (pdNS).tab kd900 eq1
  refine p_get (ci := 3) (v := .ref qa2) (C := RX3) (T := TX3) (N := 7) hx hb hT iw_X3 hown hK hw hW kd900 (by decide) rfl rfl 5 (by decide) eq1 (hT _ tb_502) (fun _ h9 => h9) dX3_freeSlot_1 ?_
  obtain ⟨zi5, ez6⟩ : ∃ z : Int32, Int32.ofNat (ln qa2) = z := ⟨_, rfl⟩
  refine p_alen (v := zi5) hx hb hK hw hW kd3 (by decide) rfl rfl ez6 dX3_freeSlot_4 ?_
  have hl7 : zi5.toInt = (2 * gn : Nat) := by have h9 := ofNat_len ez6 (by rw [ln4]; omega); rw [ln4] at h9; exact h9
  have bd8 : (512 : Int) ≤ zi5.toInt ∧ zi5.toInt ≤ 262144 := (by omega)
  refine lv_iconst (v := 1) hx hb dX3_freeSlot_5 (by decide) ?_
  refine lv_isub hx hb dX3_freeSlot_6 (lv_topi (fun zi9 ea10 => ?_))
  have bd11 : (511 : Int) ≤ zi9.toInt ∧ zi9.toInt ≤ 262143 := b_isub ea10 bd8 bc_1 (by decide) (by decide) (by decide) (by decide)
  have qe12 : zi9.toInt = (zi5 : Int32).toInt - (1 : Int32).toInt := e_isub ea10 bd8 bc_1 (by decide) (by decide)
  have qe13 : zi9.toInt = zi5.toInt - 1 := by have ha : (1 : Int32).toInt = 1 := (by decide); rw [ha] at qe12; exact qe12
  refine lv_istore_n (lv' := [(2, .int zi9), (0, .ref qa900), (1, .int zi901)]) hx hb dX3_freeSlot_7 rfl hl (by decide) rfl (fun ls hl => ?_)
  refine lv_iconst (v := 0) hx hb dX3_freeSlot_8 (by decide) ?_
  refine lv_istore_n (lv' := [(3, .int 0), (2, .int zi9), (0, .ref qa900), (1, .int zi901)]) hx hb dX3_freeSlot_9 rfl hl (by decide) rfl (fun ls hl => ?_)
  have lp485 : ∀ (n483 : Nat) (zi413 : Int32) (H : Heap) (locs : List Loc) (ls : Array Slot), 262144 - zi413.toInt < (n483 : Int) → ((0 : Int) ≤ zi413.toInt ∧ zi413.toInt ≤ 262144) → lv_has ls 4 [(0, .ref qa900), (1, .int zi901), (2, .int zi9), (3, .int zi413)] → PW G cy K ln Ls A hp0 H → va_S A s.heap H locs → W p l e ({ frames := 0, cells := 0, slots := 0, locals := 0 } : Room) s m ([.ref qa900, .int zi901] : List Value).toArray below meth c H locs 0 0 Q (F0 m 10 ls []) := by
    intro n483
    induction n483 with
    | zero =>
      intro zi413 H locs ls hm486 bd414 hl hw hS
      exact absurd hm486 (by have := bd414; omega)
    | succ n483 ih484 =>
      intro zi413 H locs ls hm486 bd414 hl hw hS
      refine lv_iload_n hx hb dX3_freeSlot_10 rfl (lv_at hl 3 rfl) ?_
      refine lv_aload_n hx hb dX3_freeSlot_11 rfl (lv_at hl 0 rfl) ?_
      refine p_get (ci := 3) (v := .ref qa2) (C := RX3) (T := TX3) (N := 7) hx hb hT iw_X3 hown hK hw hW kd900 (by decide) rfl rfl 5 (by decide) eq1 (hT _ tb_502) (fun _ h9 => h9) dX3_freeSlot_12 ?_
      obtain ⟨zi487, ez488⟩ : ∃ z : Int32, Int32.ofNat (ln qa2) = z := ⟨_, rfl⟩
      refine p_alen (v := zi487) hx hb hK hw hW kd3 (by decide) rfl rfl ez488 dX3_freeSlot_15 ?_
      have hl489 : zi487.toInt = (2 * gn : Nat) := by have h9 := ofNat_len ez488 (by rw [ln4]; omega); rw [ln4] at h9; exact h9
      have bd490 : (512 : Int) ≤ zi487.toInt ∧ zi487.toInt ≤ 262144 := (by omega)
      refine lv_icmp_ge (tgt := 44) hx hb dX3_freeSlot_16 (by decide) (fun cn491 => ?_) (fun cn491 => ?_)
      · skip
        have tf492 : zi487.toInt ≤ zi413.toInt := (fa_le _ _).mp cn491
        have bd493 : (512 : Int) ≤ zi413.toInt ∧ zi413.toInt ≤ 262144 := r_le_y cn491 bd490 bd414 (by decide) (by decide)
        refine lv_iconst (v := 0) hx hb dX3_freeSlot_44 (by decide) ?_
        rw [hQ]
        exact kz_i hx hb hr hlocks hS rfl hp0 hw ⟨ok0, (Fr.rf), (b_wid2 bc_0 (by decide) (by decide)), (by have := toi bc_0; omega)⟩ (Nat.le_of_ble_eq_true rfl) (Nat.le_of_ble_eq_true rfl) dX3_freeSlot_45
      · skip
        have tf494 : zi413.toInt < zi487.toInt := (fa_lt _ _).mp (Int32.not_le.mp cn491)
        have bd495 : (0 : Int) ≤ zi413.toInt ∧ zi413.toInt ≤ 262143 := r_lt_x (Int32.not_le.mp cn491) bd414 bd490 (by decide) (by decide)
        refine lv_aload_n hx hb dX3_freeSlot_19 rfl (lv_at hl 0 rfl) ?_
        refine p_get (ci := 3) (v := .ref qa2) (C := RX3) (T := TX3) (N := 7) hx hb hT iw_X3 hown hK hw hW kd900 (by decide) rfl rfl 5 (by decide) eq1 (hT _ tb_502) (fun _ h9 => h9) dX3_freeSlot_20 ?_
        refine lv_iload_n hx hb dX3_freeSlot_23 rfl (lv_at hl 1 rfl) ?_
        refine lv_iload_n hx hb dX3_freeSlot_24 rfl (lv_at hl 3 rfl) ?_
        refine lv_iadd hx hb dX3_freeSlot_25 (lv_topi (fun zi496 ea497 => ?_))
        refine lv_iload_n hx hb dX3_freeSlot_26 rfl (lv_at hl 2 rfl) ?_
        refine lv_iand hx hb dX3_freeSlot_27 (lv_topi (fun zi498 ea499 => ?_))
        have an500 := b_and_r (c := zi9.toInt) (d := zi9.toInt) (lo := 0) (hi := zi9.toInt) ea499 ⟨Int.le_refl _, Int.le_refl _⟩ (by omega) (by omega) (by omega)
        have bd501 : (0 : Int) ≤ zi498.toInt ∧ zi498.toInt ≤ 262143 := b_and_r ea499 bd11 (by decide) (by decide) (by decide)
        obtain ⟨zi503, eq502, bd504⟩ := rd_33000 ok0 kd3 ((zi498 : Int32).toNatClampNeg)
        have nz505 := (pdNS).elt kd900 eq1 (vp_bv (by omega) (by omega)) eq502
        refine p_iald (v := zi503) hx hb hK hw hW kd3 (by decide) rfl ln4 (vp_bv (by omega) (by omega)) eq502 dX3_freeSlot_28 ?_
        refine lv_if_ne (tgt := 38) hx hb dX3_freeSlot_29 (by decide) (fun cn506 => ?_) (fun cn506 => ?_)
        · skip
          have tf507 : (zi503 : Int32).toInt ≠ (0 : Int32).toInt := fun e => cn506 (Int32.toInt_inj.mp e)
          have := toi bc_0
          have bd508 : (1 : Int) ≤ zi503.toInt ∧ zi503.toInt ≤ 131072 := r_ne_lo cn506 bd504 (toi bc_0) (by decide) (by decide)
          obtain ⟨zi509, ea510⟩ : ∃ z : Int32, z = zi413 + 1 := ⟨_, rfl⟩
          have bd511 : (1 : Int) ≤ zi509.toInt ∧ zi509.toInt ≤ 262144 := b_iadd ea510 bd495 bc_1 (by decide) (by decide) (by decide) (by decide)
          have qe512 : zi509.toInt = (zi413 : Int32).toInt + (1 : Int32).toInt := e_iadd ea510 bd495 bc_1 (by decide) (by decide)
          have qe513 : zi509.toInt = zi413.toInt + 1 := by have ha : (1 : Int32).toInt = 1 := (by decide); rw [ha] at qe512; exact qe512
          refine lv_iinc (v := zi509) (lv' := [(3, .int zi509), (0, .ref qa900), (1, .int zi901), (2, .int zi9)]) hx hb dX3_freeSlot_38 hl (k := 3) rfl ea510.symm (by decide) rfl (fun ls hl => ?_)
          refine lv_goto (tgt := 10) hx hb dX3_freeSlot_41 (by decide) ?_
          exact ih484 zi509 _ _ ls (by have := hm486; have := qe513; omega) (b_wid2 bd511 (by decide) (by decide)) (lv_sub hl [1, 2, 3, 0] rfl) hw hS
        · skip
          have bd514 : (0 : Int) ≤ zi503.toInt ∧ zi503.toInt ≤ 0 := r_eq_x cn506 bd504 bc_0 (by decide) (by decide)
          refine lv_iload_n hx hb dX3_freeSlot_32 rfl (lv_at hl 1 rfl) ?_
          refine lv_iload_n hx hb dX3_freeSlot_33 rfl (lv_at hl 3 rfl) ?_
          refine lv_iadd hx hb dX3_freeSlot_34 (lv_topi (fun zi515 ea516 => ?_))
          refine lv_iload_n hx hb dX3_freeSlot_35 rfl (lv_at hl 2 rfl) ?_
          refine lv_iand hx hb dX3_freeSlot_36 (lv_topi (fun zi517 ea518 => ?_))
          have an519 := b_and_r (c := zi9.toInt) (d := zi9.toInt) (lo := 0) (hi := zi9.toInt) ea518 ⟨Int.le_refl _, Int.le_refl _⟩ (by omega) (by omega) (by omega)
          have bd520 : (0 : Int) ≤ zi517.toInt ∧ zi517.toInt ≤ 262143 := b_and_r ea518 bd11 (by decide) (by decide) (by decide)
          rw [hQ]
          exact kz_i hx hb hr hlocks hS rfl hp0 hw ⟨ok0, (Fr.rf), (b_wid2 bd520 (by decide) (by decide)), (by omega)⟩ (Nat.le_of_ble_eq_true rfl) (Nat.le_of_ble_eq_true rfl) dX3_freeSlot_37
  exact lp485 _ 0 _ _ ls (lp_in _) (b_wid2 bc_0 (by decide) (by decide)) (lv_sub hl [2, 3, 1, 0] rfl) hw hS
