set_option maxRecDepth 100000 in
set_option maxHeartbeats 4000000 in
theorem cX8_append_0 (l : Launch) (G : va_G) (cy : Nat → ClassId) (ev : Ew) (K ln : Nat → Nat) (Ls : List Nat) (hW : SW K ln Ls) (sz : Nat) (hp0 : Nat → Nat → Value) (ok0 : Ok K hp0) (qa900 : Nat) (zi901 : Int32) (kd900 : K qa900 = 9) : Met l yX8_append (WS yX8_append cX8_append 3 none) { frames := 0, cells := 0, slots := 0, locals := 0 } (PB2 [.ref qa900, .int zi901] sz G cy ev (va_pl Ls (cellOf cy K ln hp0))) (QBv (S := (Nat → Nat → Value)) (fun u : (Nat → Nat → Value) => Ok K u ∧ Fr [9001, 43000] K hp0 u) G (fun u => va_pl Ls (cellOf cy K ln u)) (va_A (va_pl Ls (cellOf cy K ln hp0)) sz)) 0 0 (va_A (va_pl Ls (cellOf cy K ln hp0)) sz) := by
  refine met_of2 (y := yX8_append) (L := 3) (av := [.ref qa900, .int zi901]) (Qc := fun A => QBv (S := (Nat → Nat → Value)) (fun u : (Nat → Nat → Value) => Ok K u ∧ Fr [9001, 43000] K hp0 u) G (fun u => va_pl Ls (cellOf cy K ln u)) A) (plainFor_of_name (by decide)) (Nat.le_of_ble_eq_true rfl) ?_
  intro p e s m below meth c hsz hx hb hr hml hown hT hlocks hin hK A hA hE hw hS ls hl
  have hw : PW G cy K ln Ls A hp0 s.heap := hw
  have hown : s.vm.findClass "LieClock$Tape" = some m.cls := hown
  have hl : lv_has ls 3 [(0, .ref qa900), (1, .int zi901)] := hl
  obtain ⟨Q, hQ⟩ : ∃ Q : State → Prop, Q = MQ below (QBv (S := (Nat → Nat → Value)) (fun u : (Nat → Nat → Value) => Ok K u ∧ Fr [9001, 43000] K hp0 u) G (fun u => va_pl Ls (cellOf cy K ln u)) A) ([.ref qa900, .int zi901] : List Value).toArray s 0 0 A := ⟨_, rfl⟩
  rw [← hQ]
  refine lv_bipush (v := 24) hx hb dX8_append_0 (by decide) ?_
  refine lv_istore_n (lv' := [(2, .int 24), (0, .ref qa900), (1, .int zi901)]) hx hb dX8_append_2 rfl hl (by decide) rfl (fun ls hl => ?_)
  have jn281 : ∀ (hp278 : Nat → Nat → Value)  (H : Heap) (locs : List Loc) (ls : Array Slot), Ok K hp278 → Fr [9001, 43000] K hp0 hp278 → lv_has ls 3 [] → PW G cy K ln Ls A hp278 H → va_S A s.heap H locs → W p l e ({ frames := 0, cells := 0, slots := 0, locals := 0 } : Room) s m ([.ref qa900, .int zi901] : List Value).toArray below meth c H locs 0 0 Q (F0 m 46 ls []) := by
    intro hp278 H locs ls ok280 F279 hl hw hS
    rw [hQ]
    exact kz_v hx hb hr hlocks hS hp278 hw ⟨ok280, (Fr.tr (Fr.rf) F279 (by decide))⟩ (Nat.le_of_ble_eq_true rfl) (Nat.le_of_ble_eq_true rfl) dX8_append_46
  have lp284 : ∀ (n282 : Nat) (hp208 : Nat → Nat → Value) (zi207 : Int32) (H : Heap) (locs : List Loc) (ls : Array Slot), zi207.toInt - (-8) < (n282 : Int) → Ok K hp208 → Fr [9001, 43000] K hp0 hp208 → ((-8 : Int) ≤ zi207.toInt ∧ zi207.toInt ≤ 24) → lv_has ls 3 [(0, .ref qa900), (1, .int zi901), (2, .int zi207)] → PW G cy K ln Ls A hp208 H → va_S A s.heap H locs → W p l e ({ frames := 0, cells := 0, slots := 0, locals := 0 } : Room) s m ([.ref qa900, .int zi901] : List Value).toArray below meth c H locs 0 0 Q (F0 m 3 ls []) := by
    intro n282
    induction n282 with
    | zero =>
      intro hp208 zi207 H locs ls hm285 ok210 F209 bd211 hl hw hS
      exact absurd hm285 (by have := bd211; omega)
    | succ n282 ih283 =>
      intro hp208 zi207 H locs ls hm285 ok210 F209 bd211 hl hw hS
      refine lv_iload_n hx hb dX8_append_3 rfl (lv_at hl 2 rfl) ?_
      refine lv_if_lt (tgt := 46) hx hb dX8_append_4 (by decide) (fun cn286 => ?_) (fun cn286 => ?_)
      · skip
        have bd287 : (-8 : Int) ≤ zi207.toInt ∧ zi207.toInt ≤ -1 := r_lt_x cn286 bd211 bc_0 (by decide) (by decide)
        exact jn281 hp208 _ _ ls ok210 (Fr.tr (Fr.rf) F209 (by decide)) (lv_sub hl [] rfl) hw hS
      · skip
        have bd288 : (0 : Int) ≤ zi207.toInt ∧ zi207.toInt ≤ 24 := r_le_y (Int32.not_lt.mp cn286) bc_0 bd211 (by decide) (by decide)
        refine lv_aload_n hx hb dX8_append_7 rfl (lv_at hl 0 rfl) ?_
        obtain ⟨zi290, eq289, bd291⟩ := rd_9001 ok210 kd900
        refine p_get (ci := 8) (v := .int zi290) (C := RX8) (T := TX8) (N := 2) hx hb hT iw_X8 hown hK hw hW kd900 (by decide) rfl rfl 1 (by decide) eq289 (hT _ tb_144) (fun _ h9 => h9) dX8_append_8 ?_
        refine lv_sipush (v := 2000) hx hb dX8_append_11 (by decide) ?_
        refine lv_icmp_ge (tgt := 46) hx hb dX8_append_14 (by decide) (fun cn292 => ?_) (fun cn292 => ?_)
        · skip
          have bd293 : (2000 : Int) ≤ zi290.toInt ∧ zi290.toInt ≤ 2000 := r_le_y cn292 bc_2000 bd291 (by decide) (by decide)
          exact jn281 hp208 _ _ ls ok210 (Fr.tr (Fr.rf) F209 (by decide)) (lv_sub hl [] rfl) hw hS
        · skip
          have bd294 : (0 : Int) ≤ zi290.toInt ∧ zi290.toInt ≤ 1999 := r_lt_x (Int32.not_le.mp cn292) bd291 bc_2000 (by decide) (by decide)
          refine lv_aload_n hx hb dX8_append_17 rfl (lv_at hl 0 rfl) ?_
          obtain ⟨qa296, eq295, kd297⟩ := rd_9000 ok210 kd900
          refine p_get (ci := 8) (v := .ref qa296) (C := RX8) (T := TX8) (N := 2) hx hb hT iw_X8 hown hK hw hW kd900 (by decide) rfl rfl 0 (by decide) eq295 (hT _ tb_142) (fun _ h9 => h9) dX8_append_18 ?_
          refine lv_aload_n hx hb dX8_append_21 rfl (lv_at hl 0 rfl) ?_
          refine p_get (ci := 8) (v := .int zi290) (C := RX8) (T := TX8) (N := 2) hx hb hT iw_X8 hown hK hw hW kd900 (by decide) rfl rfl 1 (by decide) eq289 (hT _ tb_144) (fun _ h9 => h9) dX8_append_22 ?_
          refine lv_iload_n hx hb dX8_append_25 rfl (lv_at hl 1 rfl) ?_
          refine lv_iload_n hx hb dX8_append_26 rfl (lv_at hl 2 rfl) ?_
          refine lv_ishr hx hb dX8_append_27 (lv_topi (fun zi298 ea299 => ?_))
          refine lv_i2b hx hb dX8_append_28 rfl (lv_topi (fun zi300 ea301 => ?_))
          refine p_bast (x := zi300) hx hb hK hw hS hW kd297 (by decide) rfl (hW.len kd297 (n := 2000) rfl (by decide)) (vp_b bd294 (by decide) (by decide)) dX8_append_29 (fun hp302 eh303 H locs hw hS => ?_)
          have ok304 := wr_43000 (nar_b zi300) (by decide) (by decide) ok210 kd297 eh303
          refine lv_aload_n hx hb dX8_append_30 rfl (lv_at hl 0 rfl) ?_
          refine lv_dup hx hb dX8_append_31 rfl ?_
          have eq305 : hp302 qa900 1 = .int zi290 := Eq.trans (up_at eh303 (Or.inl (kd_ne kd900 kd297 (by decide)))) eq289
          refine p_get (ci := 8) (v := .int zi290) (C := RX8) (T := TX8) (N := 2) hx hb hT iw_X8 hown hK hw hW kd900 (by decide) rfl rfl 1 (by decide) eq305 (hT _ tb_144) (fun _ h9 => h9) dX8_append_32 ?_
          refine lv_iconst (v := 1) hx hb dX8_append_35 (by decide) ?_
          refine lv_iadd hx hb dX8_append_36 (lv_topi (fun zi306 ea307 => ?_))
          have bd308 : (1 : Int) ≤ zi306.toInt ∧ zi306.toInt ≤ 2000 := b_iadd ea307 bd294 bc_1 (by decide) (by decide) (by decide) (by decide)
          have qe309 : zi306.toInt = (zi290 : Int32).toInt + (1 : Int32).toInt := e_iadd ea307 bd294 bc_1 (by decide) (by decide)
          have qe310 : zi306.toInt = zi290.toInt + 1 := by have ha : (1 : Int32).toInt = 1 := (by decide); rw [ha] at qe309; exact qe309
          refine p_put (ci := 8) (v := .int zi306) (ty := .int) (C := RX8) (T := TX8) (N := 2) hx hb hT iw_X8 tyX8 tyX8_ok nmX8 hown hK hw hS hW kd900 (by decide) rfl rfl 1 (by decide) (hT _ tb_144) (fun _ h9 => h9) rfl (by decide +kernel) rfl rfl dX8_append_37 (fun hp311 eh312 H locs hw hS => ?_)
          have ok313 := wr_9001 bd308 (by decide) (by decide) ok304 kd900 eh312
          obtain ⟨zi314, ea315⟩ : ∃ z : Int32, z = zi207 + (-8) := ⟨_, rfl⟩
          have bd316 : (-8 : Int) ≤ zi314.toInt ∧ zi314.toInt ≤ 16 := b_iadd ea315 bd288 bc_m8 (by decide) (by decide) (by decide) (by decide)
          have qe317 : zi314.toInt = (zi207 : Int32).toInt + ((-8) : Int32).toInt := e_iadd ea315 bd288 bc_m8 (by decide) (by decide)
          have qe318 : zi314.toInt = zi207.toInt + (-8) := by have ha : ((-8) : Int32).toInt = (-8) := (by decide); rw [ha] at qe317; exact qe317
          refine lv_iinc (v := zi314) (lv' := [(2, .int zi314), (0, .ref qa900), (1, .int zi901)]) hx hb dX8_append_40 hl (k := 2) rfl ea315.symm (by decide) rfl (fun ls hl => ?_)
          refine lv_goto (tgt := 3) hx hb dX8_append_43 (by decide) ?_
          exact ih283 hp311 zi314 _ _ ls (by have := hm285; have := qe318; omega) ok313 (Fr.put (cq := 9001) (Fr.put (cq := 43000) (Fr.tr (Fr.rf) F209 (by decide)) eh303 kd297 (cd_a (by decide)) (by decide)) eh312 kd900 (cd_o (by decide)) (by decide)) (b_wid2 bd316 (by decide) (by decide)) (lv_sub hl [1, 2, 0] rfl) hw hS
  exact lp284 _ hp0 24 _ _ ls (lp_in _) ok0 (Fr.rf) (b_wid2 bc_24 (by decide) (by decide)) (lv_sub hl [1, 2, 0] rfl) hw hS

set_option maxRecDepth 100000 in
set_option maxHeartbeats 4000000 in
theorem cX8_at_0 (l : Launch) (G : va_G) (cy : Nat → ClassId) (ev : Ew) (K ln : Nat → Nat) (Ls : List Nat) (hW : SW K ln Ls) (sz : Nat) (hp0 : Nat → Nat → Value) (ok0 : Ok K hp0) (qa900 : Nat) (zi901 : Int32) (kd900 : K qa900 = 9) : Met l yX8_at (WS yX8_at cX8_at 2 (some .int)) { frames := 0, cells := 0, slots := 0, locals := 0 } (PB2 [.ref qa900, .int zi901] sz G cy ev (va_pl Ls (cellOf cy K ln hp0))) (QBi (S := (Nat → Nat → Value)) (fun (r : Int32) (u : (Nat → Nat → Value)) => Ok K u ∧ Fr [] K hp0 u ∧ ((-1 : Int) ≤ r.toInt ∧ r.toInt ≤ 255)) G (fun u => va_pl Ls (cellOf cy K ln u)) (va_A (va_pl Ls (cellOf cy K ln hp0)) sz)) 0 0 (va_A (va_pl Ls (cellOf cy K ln hp0)) sz) := by
  refine met_of2 (y := yX8_at) (L := 2) (av := [.ref qa900, .int zi901]) (Qc := fun A => QBi (S := (Nat → Nat → Value)) (fun (r : Int32) (u : (Nat → Nat → Value)) => Ok K u ∧ Fr [] K hp0 u ∧ ((-1 : Int) ≤ r.toInt ∧ r.toInt ≤ 255)) G (fun u => va_pl Ls (cellOf cy K ln u)) A) (plainFor_of_name (by decide)) (Nat.le_of_ble_eq_true rfl) ?_
  intro p e s m below meth c hsz hx hb hr hml hown hT hlocks hin hK A hA hE hw hS ls hl
  have hw : PW G cy K ln Ls A hp0 s.heap := hw
  have hown : s.vm.findClass "LieClock$Tape" = some m.cls := hown
  have hl : lv_has ls 2 [(0, .ref qa900), (1, .int zi901)] := hl
  obtain ⟨Q, hQ⟩ : ∃ Q : State → Prop, Q = MQ below (QBi (S := (Nat → Nat → Value)) (fun (r : Int32) (u : (Nat → Nat → Value)) => Ok K u ∧ Fr [] K hp0 u ∧ ((-1 : Int) ≤ r.toInt ∧ r.toInt ≤ 255)) G (fun u => va_pl Ls (cellOf cy K ln u)) A) ([.ref qa900, .int zi901] : List Value).toArray s 0 0 A := ⟨_, rfl⟩
  rw [← hQ]
  refine lv_iload_n hx hb dX8_at_0 rfl (lv_at hl 1 rfl) ?_
  refine lv_if_lt (tgt := 25) hx hb dX8_at_1 (by decide) (fun cn1 => ?_) (fun cn1 => ?_)
  · skip
    have bd2 : (-2147483648 : Int) ≤ zi901.toInt ∧ zi901.toInt ≤ -1 := r_lt_x cn1 (b_all zi901) bc_0 (by decide) (by decide)
    refine lv_iconst (v := (-1)) hx hb dX8_at_25 (by decide) ?_
    rw [hQ]
    exact kz_i hx hb hr hlocks hS rfl hp0 hw ⟨ok0, (Fr.rf), (b_wid2 bc_m1 (by decide) (by decide))⟩ (Nat.le_of_ble_eq_true rfl) (Nat.le_of_ble_eq_true rfl) dX8_at_26
  · skip
    have bd3 : (0 : Int) ≤ zi901.toInt ∧ zi901.toInt ≤ 2147483647 := r_le_y (Int32.not_lt.mp cn1) bc_0 (b_all zi901) (by decide) (by decide)
    refine lv_iload_n hx hb dX8_at_4 rfl (lv_at hl 1 rfl) ?_
    refine lv_aload_n hx hb dX8_at_5 rfl (lv_at hl 0 rfl) ?_
    obtain ⟨zi5, eq4, bd6⟩ := rd_9001 ok0 kd900
    refine p_get (ci := 8) (v := .int zi5) (C := RX8) (T := TX8) (N := 2) hx hb hT iw_X8 hown hK hw hW kd900 (by decide) rfl rfl 1 (by decide) eq4 (hT _ tb_144) (fun _ h9 => h9) dX8_at_6 ?_
    refine lv_icmp_ge (tgt := 25) hx hb dX8_at_9 (by decide) (fun cn7 => ?_) (fun cn7 => ?_)
    · skip
      refine lv_iconst (v := (-1)) hx hb dX8_at_25 (by decide) ?_
      rw [hQ]
      exact kz_i hx hb hr hlocks hS rfl hp0 hw ⟨ok0, (Fr.rf), (b_wid2 bc_m1 (by decide) (by decide))⟩ (Nat.le_of_ble_eq_true rfl) (Nat.le_of_ble_eq_true rfl) dX8_at_26
    · skip
      have bd8 : (0 : Int) ≤ zi901.toInt ∧ zi901.toInt ≤ 1999 := r_lt_x (Int32.not_le.mp cn7) bd3 bd6 (by decide) (by decide)
      have bd9 : (1 : Int) ≤ zi5.toInt ∧ zi5.toInt ≤ 2000 := r_lt_y (Int32.not_le.mp cn7) bd3 bd6 (by decide) (by decide)
      refine lv_aload_n hx hb dX8_at_12 rfl (lv_at hl 0 rfl) ?_
      obtain ⟨qa11, eq10, kd12⟩ := rd_9000 ok0 kd900
      refine p_get (ci := 8) (v := .ref qa11) (C := RX8) (T := TX8) (N := 2) hx hb hT iw_X8 hown hK hw hW kd900 (by decide) rfl rfl 0 (by decide) eq10 (hT _ tb_142) (fun _ h9 => h9) dX8_at_13 ?_
      refine lv_iload_n hx hb dX8_at_16 rfl (lv_at hl 1 rfl) ?_
      obtain ⟨zi14, eq13, bd15⟩ := rd_43000 ok0 kd12 ((zi901 : Int32).toNatClampNeg)
      refine p_bald (v := zi14) hx hb hK hw hW kd12 (by decide) rfl (hW.len kd12 (n := 2000) rfl (by decide)) (vp_b bd8 (by decide) (by decide)) eq13 dX8_at_17 ?_
      refine lv_sipush (v := 255) hx hb dX8_at_18 (by decide) ?_
      refine lv_iand hx hb dX8_at_21 (lv_topi (fun zi16 ea17 => ?_))
      have bd18 : (0 : Int) ≤ zi16.toInt ∧ zi16.toInt ≤ 255 := b_and_r ea17 bc_255 (by decide) (by decide) (by decide)
      refine lv_goto (tgt := 26) hx hb dX8_at_22 (by decide) ?_
      rw [hQ]
      exact kz_i hx hb hr hlocks hS rfl hp0 hw ⟨ok0, (Fr.rf), (b_wid2 bd18 (by decide) (by decide))⟩ (Nat.le_of_ble_eq_true rfl) (Nat.le_of_ble_eq_true rfl) dX8_at_26

set_option maxRecDepth 100000 in
set_option maxHeartbeats 4000000 in
theorem cX8_copyFrom_0 (l : Launch) (G : va_G) (cy : Nat → ClassId) (ev : Ew) (K ln : Nat → Nat) (Ls : List Nat) (hW : SW K ln Ls) (sz : Nat) (hp0 : Nat → Nat → Value) (ok0 : Ok K hp0) (qa900 : Nat) (qa901 : Nat) (kd900 : K qa900 = 9) (kd901 : K qa901 = 9) : Met l yX8_copyFrom (WS yX8_copyFrom cX8_copyFrom 2 none) { frames := 1, cells := 0, slots := 0, locals := 40 } (PB2 [.ref qa900, .ref qa901] sz G cy ev (va_pl Ls (cellOf cy K ln hp0))) (QBv (S := (Nat → Nat → Value)) (fun u : (Nat → Nat → Value) => Ok K u ∧ Fr [9001, 43000] K hp0 u) G (fun u => va_pl Ls (cellOf cy K ln u)) (va_A (va_pl Ls (cellOf cy K ln hp0)) sz)) 0 0 (va_A (va_pl Ls (cellOf cy K ln hp0)) sz) := by
  refine met_of2 (y := yX8_copyFrom) (L := 2) (av := [.ref qa900, .ref qa901]) (Qc := fun A => QBv (S := (Nat → Nat → Value)) (fun u : (Nat → Nat → Value) => Ok K u ∧ Fr [9001, 43000] K hp0 u) G (fun u => va_pl Ls (cellOf cy K ln u)) A) (plainFor_of_name (by decide)) (Nat.le_of_ble_eq_true rfl) ?_
  intro p e s m below meth c hsz hx hb hr hml hown hT hlocks hin hK A hA hE hw hS ls hl
  have hw : PW G cy K ln Ls A hp0 s.heap := hw
  have hown : s.vm.findClass "LieClock$Tape" = some m.cls := hown
  have hl : lv_has ls 2 [(0, .ref qa900), (1, .ref qa901)] := hl
  obtain ⟨Q, hQ⟩ : ∃ Q : State → Prop, Q = MQ below (QBv (S := (Nat → Nat → Value)) (fun u : (Nat → Nat → Value) => Ok K u ∧ Fr [9001, 43000] K hp0 u) G (fun u => va_pl Ls (cellOf cy K ln u)) A) ([.ref qa900, .ref qa901] : List Value).toArray s 0 0 A := ⟨_, rfl⟩
  rw [← hQ]
  refine lv_aload_n hx hb dX8_copyFrom_0 rfl (lv_at hl 1 rfl) ?_
  obtain ⟨qa2, eq1, kd3⟩ := rd_9000 ok0 kd901
  refine p_get (ci := 8) (v := .ref qa2) (C := RX8) (T := TX8) (N := 2) hx hb hT iw_X8 hown hK hw hW kd901 (by decide) rfl rfl 0 (by decide) eq1 (hT _ tb_142) (fun _ h9 => h9) dX8_copyFrom_1 ?_
  refine lv_iconst (v := 0) hx hb dX8_copyFrom_4 (by decide) ?_
  refine lv_aload_n hx hb dX8_copyFrom_5 rfl (lv_at hl 0 rfl) ?_
  obtain ⟨qa5, eq4, kd6⟩ := rd_9000 ok0 kd900
  refine p_get (ci := 8) (v := .ref qa5) (C := RX8) (T := TX8) (N := 2) hx hb hT iw_X8 hown hK hw hW kd900 (by decide) rfl rfl 0 (by decide) eq4 (hT _ tb_142) (fun _ h9 => h9) dX8_copyFrom_6 ?_
  refine lv_iconst (v := 0) hx hb dX8_copyFrom_9 (by decide) ?_
  refine lv_aload_n hx hb dX8_copyFrom_10 rfl (lv_at hl 1 rfl) ?_
  obtain ⟨zi8, eq7, bd9⟩ := rd_9001 ok0 kd901
  refine p_get (ci := 8) (v := .int zi8) (C := RX8) (T := TX8) (N := 2) hx hb hT iw_X8 hown hK hw hW kd901 (by decide) rfl rfl 1 (by decide) eq7 (hT _ tb_144) (fun _ h9 => h9) dX8_copyFrom_11 ?_
  refine p_copy0 (k0 := 43) (k1 := 43) (cq := 43000) hx hb (hml.trans hl.1.symm) hown (hT _ tb_1348) (hT _ tb_1054) (hT _ tb_1053) (hT _ tb_127) hK hw hS hW ok0 kd3 kd6 (by decide) (by decide) rfl rfl (hW.len kd3 (n := 2000) rfl (by decide)) (hW.len kd6 (n := 2000) rfl (by decide)) (fun _ h9 => h9) bc_0 bc_0 bd9 (by decide) (by decide) (by decide) (by decide) (by decide) (Nat.le_of_ble_eq_true rfl) (Nat.le_of_ble_eq_true rfl) dX8_copyFrom_14 (by decide) rfl (fun hp10 ok12 F11 H locs hw hS => ?_)
  refine lv_aload_n hx hb dX8_copyFrom_17 rfl (lv_at hl 0 rfl) ?_
  refine lv_aload_n hx hb dX8_copyFrom_18 rfl (lv_at hl 1 rfl) ?_
  have eq13 : hp10 qa901 1 = .int zi8 := Eq.trans (Fr.at (cq := 9001) F11 kd901 (cd_o (by decide)) (by decide)) eq7
  refine p_get (ci := 8) (v := .int zi8) (C := RX8) (T := TX8) (N := 2) hx hb hT iw_X8 hown hK hw hW kd901 (by decide) rfl rfl 1 (by decide) eq13 (hT _ tb_144) (fun _ h9 => h9) dX8_copyFrom_19 ?_
  refine p_put (ci := 8) (v := .int zi8) (ty := .int) (C := RX8) (T := TX8) (N := 2) hx hb hT iw_X8 tyX8 tyX8_ok nmX8 hown hK hw hS hW kd900 (by decide) rfl rfl 1 (by decide) (hT _ tb_144) (fun _ h9 => h9) rfl (by decide +kernel) rfl rfl dX8_copyFrom_22 (fun hp14 eh15 H locs hw hS => ?_)
  have ok16 := wr_9001 bd9 (by decide) (by decide) ok12 kd900 eh15
  rw [hQ]
  exact kz_v hx hb hr hlocks hS hp14 hw ⟨ok16, (Fr.put (cq := 9001) (Fr.tr (Fr.rf) F11 (by decide)) eh15 kd900 (cd_o (by decide)) (by decide))⟩ (Nat.le_of_ble_eq_true rfl) (Nat.le_of_ble_eq_true rfl) dX8_copyFrom_25

set_option maxRecDepth 100000 in
set_option maxHeartbeats 4000000 in
theorem cX9_isBlank_0 (l : Launch) (G : va_G) (cy : Nat → ClassId) (ev : Ew) (K ln : Nat → Nat) (Ls : List Nat) (hW : SW K ln Ls) (sz : Nat) (hp0 : Nat → Nat → Value) (ok0 : Ok K hp0) (zi900 : Int32)  : Met l yX9_isBlank (WS yX9_isBlank cX9_isBlank 1 (some .boolean)) { frames := 0, cells := 0, slots := 0, locals := 0 } (PB2 [.int zi900] sz G cy ev (va_pl Ls (cellOf cy K ln hp0))) (QBi (S := (Nat → Nat → Value)) (fun (r : Int32) (u : (Nat → Nat → Value)) => Ok K u ∧ Fr [] K hp0 u ∧ ((0 : Int) ≤ r.toInt ∧ r.toInt ≤ 1) ∧ (r = 1 → ((9 : Int) ≤ zi900.toInt ∧ zi900.toInt ≤ 32))) G (fun u => va_pl Ls (cellOf cy K ln u)) (va_A (va_pl Ls (cellOf cy K ln hp0)) sz)) 0 0 (va_A (va_pl Ls (cellOf cy K ln hp0)) sz) := by
  refine met_of2 (y := yX9_isBlank) (L := 1) (av := [.int zi900]) (Qc := fun A => QBi (S := (Nat → Nat → Value)) (fun (r : Int32) (u : (Nat → Nat → Value)) => Ok K u ∧ Fr [] K hp0 u ∧ ((0 : Int) ≤ r.toInt ∧ r.toInt ≤ 1) ∧ (r = 1 → ((9 : Int) ≤ zi900.toInt ∧ zi900.toInt ≤ 32))) G (fun u => va_pl Ls (cellOf cy K ln u)) A) (plainFor_of_name (by decide)) (Nat.le_of_ble_eq_true rfl) ?_
  intro p e s m below meth c hsz hx hb hr hml hown hT hlocks hin hK A hA hE hw hS ls hl
  have hw : PW G cy K ln Ls A hp0 s.heap := hw
  have hown : s.vm.findClass "LieClock$Tokens" = some m.cls := hown
  have hl : lv_has ls 1 [(0, .int zi900)] := hl
  obtain ⟨Q, hQ⟩ : ∃ Q : State → Prop, Q = MQ below (QBi (S := (Nat → Nat → Value)) (fun (r : Int32) (u : (Nat → Nat → Value)) => Ok K u ∧ Fr [] K hp0 u ∧ ((0 : Int) ≤ r.toInt ∧ r.toInt ≤ 1) ∧ (r = 1 → ((9 : Int) ≤ zi900.toInt ∧ zi900.toInt ≤ 32))) G (fun u => va_pl Ls (cellOf cy K ln u)) A) ([.int zi900] : List Value).toArray s 0 0 A := ⟨_, rfl⟩
  rw [← hQ]
  refine lv_iload_n hx hb dX9_isBlank_0 rfl (lv_at hl 0 rfl) ?_
  refine lv_bipush (v := 32) hx hb dX9_isBlank_1 (by decide) ?_
  refine lv_icmp_eq (tgt := 24) hx hb dX9_isBlank_3 (by decide) (fun cn1 => ?_) (fun cn1 => ?_)
  · skip
    have bd2 : (32 : Int) ≤ zi900.toInt ∧ zi900.toInt ≤ 32 := r_eq_x cn1 (b_all zi900) bc_32 (by decide) (by decide)
    refine lv_iconst (v := 1) hx hb dX9_isBlank_24 (by decide) ?_
    refine lv_goto (tgt := 29) hx hb dX9_isBlank_25 (by decide) ?_
    rw [hQ]
    exact kz_i hx hb hr hlocks hS (nz_n bc_1 (by decide) (by decide)) hp0 hw ⟨ok0, (Fr.rf), (b_wid2 bc_1 (by decide) (by decide)), (fun _ => b_wid2 bd2 (by decide) (by decide))⟩ (Nat.le_of_ble_eq_true rfl) (Nat.le_of_ble_eq_true rfl) dX9_isBlank_29
  · skip
    refine lv_iload_n hx hb dX9_isBlank_6 rfl (lv_at hl 0 rfl) ?_
    refine lv_bipush (v := 9) hx hb dX9_isBlank_7 (by decide) ?_
    refine lv_icmp_eq (tgt := 24) hx hb dX9_isBlank_9 (by decide) (fun cn3 => ?_) (fun cn3 => ?_)
    · skip
      have bd4 : (9 : Int) ≤ zi900.toInt ∧ zi900.toInt ≤ 9 := r_eq_x cn3 (b_all zi900) bc_9 (by decide) (by decide)
      refine lv_iconst (v := 1) hx hb dX9_isBlank_24 (by decide) ?_
      refine lv_goto (tgt := 29) hx hb dX9_isBlank_25 (by decide) ?_
      rw [hQ]
      exact kz_i hx hb hr hlocks hS (nz_n bc_1 (by decide) (by decide)) hp0 hw ⟨ok0, (Fr.rf), (b_wid2 bc_1 (by decide) (by decide)), (fun _ => b_wid2 bd4 (by decide) (by decide))⟩ (Nat.le_of_ble_eq_true rfl) (Nat.le_of_ble_eq_true rfl) dX9_isBlank_29
    · skip
      refine lv_iload_n hx hb dX9_isBlank_12 rfl (lv_at hl 0 rfl) ?_
      refine lv_bipush (v := 10) hx hb dX9_isBlank_13 (by decide) ?_
      refine lv_icmp_eq (tgt := 24) hx hb dX9_isBlank_15 (by decide) (fun cn5 => ?_) (fun cn5 => ?_)
      · skip
        have bd6 : (10 : Int) ≤ zi900.toInt ∧ zi900.toInt ≤ 10 := r_eq_x cn5 (b_all zi900) bc_10 (by decide) (by decide)
        refine lv_iconst (v := 1) hx hb dX9_isBlank_24 (by decide) ?_
        refine lv_goto (tgt := 29) hx hb dX9_isBlank_25 (by decide) ?_
        rw [hQ]
        exact kz_i hx hb hr hlocks hS (nz_n bc_1 (by decide) (by decide)) hp0 hw ⟨ok0, (Fr.rf), (b_wid2 bc_1 (by decide) (by decide)), (fun _ => b_wid2 bd6 (by decide) (by decide))⟩ (Nat.le_of_ble_eq_true rfl) (Nat.le_of_ble_eq_true rfl) dX9_isBlank_29
      · skip
        refine lv_iload_n hx hb dX9_isBlank_18 rfl (lv_at hl 0 rfl) ?_
        refine lv_bipush (v := 13) hx hb dX9_isBlank_19 (by decide) ?_
        refine lv_icmp_ne (tgt := 28) hx hb dX9_isBlank_21 (by decide) (fun cn7 => ?_) (fun cn7 => ?_)
        · skip
          refine lv_iconst (v := 0) hx hb dX9_isBlank_28 (by decide) ?_
          rw [hQ]
          exact kz_i hx hb hr hlocks hS (nz_n bc_0 (by decide) (by decide)) hp0 hw ⟨ok0, (Fr.rf), (b_wid2 bc_0 (by decide) (by decide)), (fun h => absurd h (by decide))⟩ (Nat.le_of_ble_eq_true rfl) (Nat.le_of_ble_eq_true rfl) dX9_isBlank_29
        · skip
          have bd8 : (13 : Int) ≤ zi900.toInt ∧ zi900.toInt ≤ 13 := r_eq_x cn7 (b_all zi900) bc_13 (by decide) (by decide)
          refine lv_iconst (v := 1) hx hb dX9_isBlank_24 (by decide) ?_
          refine lv_goto (tgt := 29) hx hb dX9_isBlank_25 (by decide) ?_
          rw [hQ]
          exact kz_i hx hb hr hlocks hS (nz_n bc_1 (by decide) (by decide)) hp0 hw ⟨ok0, (Fr.rf), (b_wid2 bc_1 (by decide) (by decide)), (fun _ => b_wid2 bd8 (by decide) (by decide))⟩ (Nat.le_of_ble_eq_true rfl) (Nat.le_of_ble_eq_true rfl) dX9_isBlank_29

set_option maxRecDepth 100000 in
set_option maxHeartbeats 4000000 in
theorem cX9_skipBlanks_0 (l : Launch) (G : va_G) (cy : Nat → ClassId) (ev : Ew) (K ln : Nat → Nat) (Ls : List Nat) (hW : SW K ln Ls) (sz : Nat) (hp0 : Nat → Nat → Value) (ok0 : Ok K hp0) (qa900 : Nat) (zi901 : Int32) (kd900 : K qa900 = 9) : Met l yX9_skipBlanks (WS yX9_skipBlanks cX9_skipBlanks 4 (some .int)) { frames := 1, cells := 0, slots := 0, locals := 21 } (PB2 [.ref qa900, .int zi901] sz G cy ev (va_pl Ls (cellOf cy K ln hp0))) (QBi (S := (Nat → Nat → Value)) (fun (r : Int32) (u : (Nat → Nat → Value)) => Ok K u ∧ Fr [] K hp0 u) G (fun u => va_pl Ls (cellOf cy K ln u)) (va_A (va_pl Ls (cellOf cy K ln hp0)) sz)) 0 0 (va_A (va_pl Ls (cellOf cy K ln hp0)) sz) := by
  refine met_of2 (y := yX9_skipBlanks) (L := 4) (av := [.ref qa900, .int zi901]) (Qc := fun A => QBi (S := (Nat → Nat → Value)) (fun (r : Int32) (u : (Nat → Nat → Value)) => Ok K u ∧ Fr [] K hp0 u) G (fun u => va_pl Ls (cellOf cy K ln u)) A) (plainFor_of_name (by decide)) (Nat.le_of_ble_eq_true rfl) ?_
  intro p e s m below meth c hsz hx hb hr hml hown hT hlocks hin hK A hA hE hw hS ls hl
  have hw : PW G cy K ln Ls A hp0 s.heap := hw
  have hown : s.vm.findClass "LieClock$Tokens" = some m.cls := hown
  have hl : lv_has ls 4 [(0, .ref qa900), (1, .int zi901)] := hl
  obtain ⟨Q, hQ⟩ : ∃ Q : State → Prop, Q = MQ below (QBi (S := (Nat → Nat → Value)) (fun (r : Int32) (u : (Nat → Nat → Value)) => Ok K u ∧ Fr [] K hp0 u) G (fun u => va_pl Ls (cellOf cy K ln u)) A) ([.ref qa900, .int zi901] : List Value).toArray s 0 0 A := ⟨_, rfl⟩
  rw [← hQ]
  refine lv_iload_n hx hb dX9_skipBlanks_0 rfl (lv_at hl 1 rfl) ?_
  refine lv_istore_n (lv' := [(2, .int zi901), (0, .ref qa900), (1, .int zi901)]) hx hb dX9_skipBlanks_1 rfl hl (by decide) rfl (fun ls hl => ?_)
  refine lv_iload_n hx hb dX9_skipBlanks_2 rfl (lv_at hl 2 rfl) ?_
  refine lv_istore_n (lv' := [(3, .int zi901), (2, .int zi901), (0, .ref qa900), (1, .int zi901)]) hx hb dX9_skipBlanks_3 rfl hl (by decide) rfl (fun ls hl => ?_)
  have jn163 : ∀ (zi162 : Int32) (H : Heap) (locs : List Loc) (ls : Array Slot), lv_has ls 4 [(2, .int zi162)] → PW G cy K ln Ls A hp0 H → va_S A s.heap H locs → W p l e ({ frames := 1, cells := 0, slots := 0, locals := 21 } : Room) s m ([.ref qa900, .int zi901] : List Value).toArray below meth c H locs 0 0 Q (F0 m 33 ls []) := by
    intro zi162 H locs ls hl hw hS
    refine lv_iload_n hx hb dX9_skipBlanks_33 rfl (lv_at hl 0 rfl) ?_
    rw [hQ]
    exact kz_i hx hb hr hlocks hS rfl hp0 hw ⟨ok0, (Fr.rf)⟩ (Nat.le_of_ble_eq_true rfl) (Nat.le_of_ble_eq_true rfl) dX9_skipBlanks_34
  have lp166 : ∀ (n164 : Nat) (zi98 : Int32) (zi99 : Int32) (H : Heap) (locs : List Loc) (ls : Array Slot), 2147483647 - zi99.toInt < (n164 : Int) → lv_has ls 4 [(0, .ref qa900), (2, .int zi98), (3, .int zi99)] → PW G cy K ln Ls A hp0 H → va_S A s.heap H locs → W p l e ({ frames := 1, cells := 0, slots := 0, locals := 21 } : Room) s m ([.ref qa900, .int zi901] : List Value).toArray below meth c H locs 0 0 Q (F0 m 4 ls []) := by
    intro n164
    induction n164 with
    | zero =>
      intro zi98 zi99 H locs ls hm167 hl hw hS
      exact absurd hm167 (by have := (b_all zi99); omega)
    | succ n164 ih165 =>
      intro zi98 zi99 H locs ls hm167 hl hw hS
      refine lv_iload_n hx hb dX9_skipBlanks_4 rfl (lv_at hl 2 rfl) ?_
      refine lv_aload_n hx hb dX9_skipBlanks_5 rfl (lv_at hl 0 rfl) ?_
      obtain ⟨zi169, eq168, bd170⟩ := rd_9001 ok0 kd900
      refine p_getN (ci := 8) (v := .int zi169) (C := RX8) (T := TX8) (N := 2) hx hb hT iw_X8 hown hK hw hW kd900 (by decide) rfl rfl 1 (by decide) eq168 (hK.fl nw_41) (fun _ h9 => h9) dX9_skipBlanks_6 ?_
      refine lv_icmp_ge (tgt := 33) hx hb dX9_skipBlanks_9 (by decide) (fun cn171 => ?_) (fun cn171 => ?_)
      · skip
        have bd172 : (0 : Int) ≤ zi99.toInt ∧ zi99.toInt ≤ 2147483647 := r_le_y cn171 bd170 (b_all zi99) (by decide) (by decide)
        exact jn163 zi98 _ _ ls (lv_sub hl [1] rfl) hw hS
      · skip
        have bd173 : (-2147483648 : Int) ≤ zi99.toInt ∧ zi99.toInt ≤ 1999 := r_lt_x (Int32.not_le.mp cn171) (b_all zi99) bd170 (by decide) (by decide)
        refine lv_aload_n hx hb dX9_skipBlanks_12 rfl (lv_at hl 0 rfl) ?_
        refine lv_iload_n hx hb dX9_skipBlanks_13 rfl (lv_at hl 2 rfl) ?_
        refine kq_i hw hS hA (va_runV (As := [.int zi99]) (rest := []) ⟨hx, hb, hml, hown, hT⟩ (cX8_at_0 l G cy ev K ln Ls hW _ hp0 ok0 qa900 zi99 kd900) (cwV 1 hT (good_V tb_739 tb_736 tb_737 tb_738 tb_106) rfl rfl rfl (by decide +kernel) ⟨Nat.le_of_ble_eq_true rfl, Nat.le_of_ble_eq_true rfl⟩) (pool_preV (ci := 8) hK hE hS hA hw hW kd900 (by decide) rfl) rfl rfl hl.1 rfl (lv_room (Nat.le_of_ble_eq_true rfl)) dX9_skipBlanks_14 ⟨Nat.le_of_ble_eq_true rfl, Nat.le_of_ble_eq_true rfl⟩) (fun zi178 hp174 H locs hq177 hw hS => ?_)
        obtain ⟨ok175, F176, bd179⟩ := hq177
        obtain rfl : hp0 = hp174 := (Fr.nil F176).symm
        have hw : PW G cy K ln Ls A hp0 H := hw
        refine kq_i hw hS hA (va_runS (As := [.int zi178]) (rest := []) ⟨hx, hb, hml, hown, hT⟩ (cX9_isBlank_0 l G cy ev K ln Ls hW _ hp0 ok0 zi178) (va_cwS 1 hT (good_S tb_742 tb_740 tb_741 tb_110) rfl rfl rfl (by decide +kernel) ⟨Nat.le_of_ble_eq_true rfl, Nat.le_of_ble_eq_true rfl⟩) (PB2.preS hK hE hS hA hw) rfl rfl hl.1 rfl (lv_room (Nat.le_of_ble_eq_true rfl)) dX9_skipBlanks_17 ⟨Nat.le_of_ble_eq_true rfl, Nat.le_of_ble_eq_true rfl⟩) (fun zi184 hp180 H locs hq183 hw hS => ?_)
        obtain ⟨ok181, F182, bd185, hc186⟩ := hq183
        obtain rfl : hp0 = hp180 := (Fr.nil F182).symm
        have hw : PW G cy K ln Ls A hp0 H := hw
        rcases b01 bd185 with cn187 | cn187
        · skip
          subst cn187
          refine lv_if_eq (tgt := 33) hx hb dX9_skipBlanks_20 (by decide) (fun _ => ?_) (fun c => absurd (d_eq bc_0 bc_0) c)
          exact jn163 zi98 _ _ ls (lv_sub hl [1] rfl) hw hS
        · skip
          subst cn187
          have bd188 : (9 : Int) ≤ zi178.toInt ∧ zi178.toInt ≤ 32 := b_meet bd179 (hc186 rfl) (by decide) (by decide)
          refine lv_if_eq (tgt := 33) hx hb dX9_skipBlanks_20 (by decide) (fun c => absurd c (d_ne bc_1 bc_0 (by decide))) (fun _ => ?_)
          refine lv_iload_n hx hb dX9_skipBlanks_23 rfl (lv_at hl 2 rfl) ?_
          refine lv_iconst (v := 1) hx hb dX9_skipBlanks_24 (by decide) ?_
          refine lv_iadd hx hb dX9_skipBlanks_25 (lv_topi (fun zi189 ea190 => ?_))
          have bd191 : (-2147483647 : Int) ≤ zi189.toInt ∧ zi189.toInt ≤ 2000 := b_iadd ea190 bd173 bc_1 (by decide) (by decide) (by decide) (by decide)
          have qe192 : zi189.toInt = (zi99 : Int32).toInt + (1 : Int32).toInt := e_iadd ea190 bd173 bc_1 (by decide) (by decide)
          have qe193 : zi189.toInt = zi99.toInt + 1 := by have ha : (1 : Int32).toInt = 1 := (by decide); rw [ha] at qe192; exact qe192
          refine lv_istore_n (lv' := [(2, .int zi189), (0, .ref qa900), (3, .int zi99)]) hx hb dX9_skipBlanks_26 rfl hl (by decide) rfl (fun ls hl => ?_)
          obtain ⟨zi194, ea195⟩ : ∃ z : Int32, z = zi99 + 1 := ⟨_, rfl⟩
          have bd196 : (-2147483647 : Int) ≤ zi194.toInt ∧ zi194.toInt ≤ 2000 := b_iadd ea195 bd173 bc_1 (by decide) (by decide) (by decide) (by decide)
          have qe197 : zi194.toInt = (zi99 : Int32).toInt + (1 : Int32).toInt := e_iadd ea195 bd173 bc_1 (by decide) (by decide)
          have qe198 : zi194.toInt = zi99.toInt + 1 := by have ha : (1 : Int32).toInt = 1 := (by decide); rw [ha] at qe197; exact qe197
          refine lv_iinc (v := zi194) (lv' := [(3, .int zi194), (2, .int zi189), (0, .ref qa900)]) hx hb dX9_skipBlanks_27 hl (k := 2) rfl ea195.symm (by decide) rfl (fun ls hl => ?_)
          refine lv_goto (tgt := 4) hx hb dX9_skipBlanks_30 (by decide) ?_
          exact ih165 zi189 zi194 _ _ ls (by have := hm167; have := qe198; omega) (lv_sub hl [2, 1, 0] rfl) hw hS
  exact lp166 _ zi901 zi901 _ _ ls (lp_in _) (lv_sub hl [2, 1, 0] rfl) hw hS

set_option maxRecDepth 100000 in
set_option maxHeartbeats 4000000 in
theorem cX9_isLetter_0 (l : Launch) (G : va_G) (cy : Nat → ClassId) (ev : Ew) (K ln : Nat → Nat) (Ls : List Nat) (hW : SW K ln Ls) (sz : Nat) (hp0 : Nat → Nat → Value) (ok0 : Ok K hp0) (zi900 : Int32)  : Met l yX9_isLetter (WS yX9_isLetter cX9_isLetter 1 (some .boolean)) { frames := 0, cells := 0, slots := 0, locals := 0 } (PB2 [.int zi900] sz G cy ev (va_pl Ls (cellOf cy K ln hp0))) (QBi (S := (Nat → Nat → Value)) (fun (r : Int32) (u : (Nat → Nat → Value)) => Ok K u ∧ Fr [] K hp0 u ∧ ((0 : Int) ≤ r.toInt ∧ r.toInt ≤ 1) ∧ (r = 1 → ((97 : Int) ≤ zi900.toInt ∧ zi900.toInt ≤ 122))) G (fun u => va_pl Ls (cellOf cy K ln u)) (va_A (va_pl Ls (cellOf cy K ln hp0)) sz)) 0 0 (va_A (va_pl Ls (cellOf cy K ln hp0)) sz) := by
  refine met_of2 (y := yX9_isLetter) (L := 1) (av := [.int zi900]) (Qc := fun A => QBi (S := (Nat → Nat → Value)) (fun (r : Int32) (u : (Nat → Nat → Value)) => Ok K u ∧ Fr [] K hp0 u ∧ ((0 : Int) ≤ r.toInt ∧ r.toInt ≤ 1) ∧ (r = 1 → ((97 : Int) ≤ zi900.toInt ∧ zi900.toInt ≤ 122))) G (fun u => va_pl Ls (cellOf cy K ln u)) A) (plainFor_of_name (by decide)) (Nat.le_of_ble_eq_true rfl) ?_
  intro p e s m below meth c hsz hx hb hr hml hown hT hlocks hin hK A hA hE hw hS ls hl
  have hw : PW G cy K ln Ls A hp0 s.heap := hw
  have hown : s.vm.findClass "LieClock$Tokens" = some m.cls := hown
  have hl : lv_has ls 1 [(0, .int zi900)] := hl
  obtain ⟨Q, hQ⟩ : ∃ Q : State → Prop, Q = MQ below (QBi (S := (Nat → Nat → Value)) (fun (r : Int32) (u : (Nat → Nat → Value)) => Ok K u ∧ Fr [] K hp0 u ∧ ((0 : Int) ≤ r.toInt ∧ r.toInt ≤ 1) ∧ (r = 1 → ((97 : Int) ≤ zi900.toInt ∧ zi900.toInt ≤ 122))) G (fun u => va_pl Ls (cellOf cy K ln u)) A) ([.int zi900] : List Value).toArray s 0 0 A := ⟨_, rfl⟩
  rw [← hQ]
  refine lv_iload_n hx hb dX9_isLetter_0 rfl (lv_at hl 0 rfl) ?_
  refine lv_bipush (v := 97) hx hb dX9_isLetter_1 (by decide) ?_
  refine lv_icmp_lt (tgt := 16) hx hb dX9_isLetter_3 (by decide) (fun cn1 => ?_) (fun cn1 => ?_)
  · skip
    have bd2 : (-2147483648 : Int) ≤ zi900.toInt ∧ zi900.toInt ≤ 96 := r_lt_x cn1 (b_all zi900) bc_97 (by decide) (by decide)
    refine lv_iconst (v := 0) hx hb dX9_isLetter_16 (by decide) ?_
    rw [hQ]
    exact kz_i hx hb hr hlocks hS (nz_n bc_0 (by decide) (by decide)) hp0 hw ⟨ok0, (Fr.rf), (b_wid2 bc_0 (by decide) (by decide)), (fun h => absurd h (by decide))⟩ (Nat.le_of_ble_eq_true rfl) (Nat.le_of_ble_eq_true rfl) dX9_isLetter_17
  · skip
    have bd3 : (97 : Int) ≤ zi900.toInt ∧ zi900.toInt ≤ 2147483647 := r_le_y (Int32.not_lt.mp cn1) bc_97 (b_all zi900) (by decide) (by decide)
    refine lv_iload_n hx hb dX9_isLetter_6 rfl (lv_at hl 0 rfl) ?_
    refine lv_bipush (v := 122) hx hb dX9_isLetter_7 (by decide) ?_
    refine lv_icmp_gt (tgt := 16) hx hb dX9_isLetter_9 (by decide) (fun cn4 => ?_) (fun cn4 => ?_)
    · skip
      have bd5 : (123 : Int) ≤ zi900.toInt ∧ zi900.toInt ≤ 2147483647 := r_lt_y cn4 bc_122 bd3 (by decide) (by decide)
      refine lv_iconst (v := 0) hx hb dX9_isLetter_16 (by decide) ?_
      rw [hQ]
      exact kz_i hx hb hr hlocks hS (nz_n bc_0 (by decide) (by decide)) hp0 hw ⟨ok0, (Fr.rf), (b_wid2 bc_0 (by decide) (by decide)), (fun h => absurd h (by decide))⟩ (Nat.le_of_ble_eq_true rfl) (Nat.le_of_ble_eq_true rfl) dX9_isLetter_17
    · skip
      have bd6 : (97 : Int) ≤ zi900.toInt ∧ zi900.toInt ≤ 122 := r_le_x (Int32.not_lt.mp cn4) bd3 bc_122 (by decide) (by decide)
      refine lv_iconst (v := 1) hx hb dX9_isLetter_12 (by decide) ?_
      refine lv_goto (tgt := 17) hx hb dX9_isLetter_13 (by decide) ?_
      rw [hQ]
      exact kz_i hx hb hr hlocks hS (nz_n bc_1 (by decide) (by decide)) hp0 hw ⟨ok0, (Fr.rf), (b_wid2 bc_1 (by decide) (by decide)), (fun _ => b_wid2 bd6 (by decide) (by decide))⟩ (Nat.le_of_ble_eq_true rfl) (Nat.le_of_ble_eq_true rfl) dX9_isLetter_17

set_option maxRecDepth 100000 in
set_option maxHeartbeats 4000000 in
theorem cX9_isDigit_0 (l : Launch) (G : va_G) (cy : Nat → ClassId) (ev : Ew) (K ln : Nat → Nat) (Ls : List Nat) (hW : SW K ln Ls) (sz : Nat) (hp0 : Nat → Nat → Value) (ok0 : Ok K hp0) (zi900 : Int32)  : Met l yX9_isDigit (WS yX9_isDigit cX9_isDigit 1 (some .boolean)) { frames := 0, cells := 0, slots := 0, locals := 0 } (PB2 [.int zi900] sz G cy ev (va_pl Ls (cellOf cy K ln hp0))) (QBi (S := (Nat → Nat → Value)) (fun (r : Int32) (u : (Nat → Nat → Value)) => Ok K u ∧ Fr [] K hp0 u ∧ ((0 : Int) ≤ r.toInt ∧ r.toInt ≤ 1) ∧ (r = 1 → ((48 : Int) ≤ zi900.toInt ∧ zi900.toInt ≤ 57))) G (fun u => va_pl Ls (cellOf cy K ln u)) (va_A (va_pl Ls (cellOf cy K ln hp0)) sz)) 0 0 (va_A (va_pl Ls (cellOf cy K ln hp0)) sz) := by
  refine met_of2 (y := yX9_isDigit) (L := 1) (av := [.int zi900]) (Qc := fun A => QBi (S := (Nat → Nat → Value)) (fun (r : Int32) (u : (Nat → Nat → Value)) => Ok K u ∧ Fr [] K hp0 u ∧ ((0 : Int) ≤ r.toInt ∧ r.toInt ≤ 1) ∧ (r = 1 → ((48 : Int) ≤ zi900.toInt ∧ zi900.toInt ≤ 57))) G (fun u => va_pl Ls (cellOf cy K ln u)) A) (plainFor_of_name (by decide)) (Nat.le_of_ble_eq_true rfl) ?_
  intro p e s m below meth c hsz hx hb hr hml hown hT hlocks hin hK A hA hE hw hS ls hl
  have hw : PW G cy K ln Ls A hp0 s.heap := hw
  have hown : s.vm.findClass "LieClock$Tokens" = some m.cls := hown
  have hl : lv_has ls 1 [(0, .int zi900)] := hl
  obtain ⟨Q, hQ⟩ : ∃ Q : State → Prop, Q = MQ below (QBi (S := (Nat → Nat → Value)) (fun (r : Int32) (u : (Nat → Nat → Value)) => Ok K u ∧ Fr [] K hp0 u ∧ ((0 : Int) ≤ r.toInt ∧ r.toInt ≤ 1) ∧ (r = 1 → ((48 : Int) ≤ zi900.toInt ∧ zi900.toInt ≤ 57))) G (fun u => va_pl Ls (cellOf cy K ln u)) A) ([.int zi900] : List Value).toArray s 0 0 A := ⟨_, rfl⟩
  rw [← hQ]
  refine lv_iload_n hx hb dX9_isDigit_0 rfl (lv_at hl 0 rfl) ?_
  refine lv_bipush (v := 48) hx hb dX9_isDigit_1 (by decide) ?_
  refine lv_icmp_lt (tgt := 16) hx hb dX9_isDigit_3 (by decide) (fun cn1 => ?_) (fun cn1 => ?_)
  · skip
    have bd2 : (-2147483648 : Int) ≤ zi900.toInt ∧ zi900.toInt ≤ 47 := r_lt_x cn1 (b_all zi900) bc_48 (by decide) (by decide)
    refine lv_iconst (v := 0) hx hb dX9_isDigit_16 (by decide) ?_
    rw [hQ]
    exact kz_i hx hb hr hlocks hS (nz_n bc_0 (by decide) (by decide)) hp0 hw ⟨ok0, (Fr.rf), (b_wid2 bc_0 (by decide) (by decide)), (fun h => absurd h (by decide))⟩ (Nat.le_of_ble_eq_true rfl) (Nat.le_of_ble_eq_true rfl) dX9_isDigit_17
  · skip
    have bd3 : (48 : Int) ≤ zi900.toInt ∧ zi900.toInt ≤ 2147483647 := r_le_y (Int32.not_lt.mp cn1) bc_48 (b_all zi900) (by decide) (by decide)
    refine lv_iload_n hx hb dX9_isDigit_6 rfl (lv_at hl 0 rfl) ?_
    refine lv_bipush (v := 57) hx hb dX9_isDigit_7 (by decide) ?_
    refine lv_icmp_gt (tgt := 16) hx hb dX9_isDigit_9 (by decide) (fun cn4 => ?_) (fun cn4 => ?_)
    · skip
      have bd5 : (58 : Int) ≤ zi900.toInt ∧ zi900.toInt ≤ 2147483647 := r_lt_y cn4 bc_57 bd3 (by decide) (by decide)
      refine lv_iconst (v := 0) hx hb dX9_isDigit_16 (by decide) ?_
      rw [hQ]
      exact kz_i hx hb hr hlocks hS (nz_n bc_0 (by decide) (by decide)) hp0 hw ⟨ok0, (Fr.rf), (b_wid2 bc_0 (by decide) (by decide)), (fun h => absurd h (by decide))⟩ (Nat.le_of_ble_eq_true rfl) (Nat.le_of_ble_eq_true rfl) dX9_isDigit_17
    · skip
      have bd6 : (48 : Int) ≤ zi900.toInt ∧ zi900.toInt ≤ 57 := r_le_x (Int32.not_lt.mp cn4) bd3 bc_57 (by decide) (by decide)
      refine lv_iconst (v := 1) hx hb dX9_isDigit_12 (by decide) ?_
      refine lv_goto (tgt := 17) hx hb dX9_isDigit_13 (by decide) ?_
      rw [hQ]
      exact kz_i hx hb hr hlocks hS (nz_n bc_1 (by decide) (by decide)) hp0 hw ⟨ok0, (Fr.rf), (b_wid2 bc_1 (by decide) (by decide)), (fun _ => b_wid2 bd6 (by decide) (by decide))⟩ (Nat.le_of_ble_eq_true rfl) (Nat.le_of_ble_eq_true rfl) dX9_isDigit_17

set_option maxRecDepth 100000 in
set_option maxHeartbeats 4000000 in
theorem cJ0_isLatin1_aae02_0 (l : Launch) (G : va_G) (cy : Nat → ClassId) (ev : Ew) (K ln : Nat → Nat) (Ls : List Nat) (hW : SW K ln Ls) (sz : Nat) (hp0 : Nat → Nat → Value) (ok0 : Ok K hp0)   : Met l yJ0_isLatin1_aae02 (WS yJ0_isLatin1_aae02 cJ0_isLatin1_aae02 1 (some .boolean)) { frames := 0, cells := 0, slots := 0, locals := 0 } (PB2 [.ref (ev.1.1 1)] sz G cy ev (va_pl Ls (cellOf cy K ln hp0))) (QBi (S := (Nat → Nat → Value)) (fun (r : Int32) (u : (Nat → Nat → Value)) => Ok K u ∧ Fr [] K hp0 u ∧ ((1 : Int) ≤ r.toInt ∧ r.toInt ≤ 1)) G (fun u => va_pl Ls (cellOf cy K ln u)) (va_A (va_pl Ls (cellOf cy K ln hp0)) sz)) 0 0 (va_A (va_pl Ls (cellOf cy K ln hp0)) sz) := by
  refine met_of2 (y := yJ0_isLatin1_aae02) (L := 1) (av := [.ref (ev.1.1 1)]) (Qc := fun A => QBi (S := (Nat → Nat → Value)) (fun (r : Int32) (u : (Nat → Nat → Value)) => Ok K u ∧ Fr [] K hp0 u ∧ ((1 : Int) ≤ r.toInt ∧ r.toInt ≤ 1)) G (fun u => va_pl Ls (cellOf cy K ln u)) A) (plainFor_of_name (by decide)) (Nat.le_of_ble_eq_true rfl) ?_
  intro p e s m below meth c hsz hx hb hr hml hown hT hlocks hin hK A hA hE hw hS ls hl
  have hw : PW G cy K ln Ls A hp0 s.heap := hw
  have hown : s.vm.findClass "java/lang/String" = some m.cls := hown
  have hl : lv_has ls 1 [(0, .ref (ev.1.1 1))] := hl
  obtain ⟨Q, hQ⟩ : ∃ Q : State → Prop, Q = MQ below (QBi (S := (Nat → Nat → Value)) (fun (r : Int32) (u : (Nat → Nat → Value)) => Ok K u ∧ Fr [] K hp0 u ∧ ((1 : Int) ≤ r.toInt ∧ r.toInt ≤ 1)) G (fun u => va_pl Ls (cellOf cy K ln u)) A) ([.ref (ev.1.1 1)] : List Value).toArray s 0 0 A := ⟨_, rfl⟩
  rw [← hQ]
  refine va_gets hx hb hE.1.2.1 hS hown (hT _ tb_309) (fun _ h9 => h9) dJ0_isLatin1_aae02_0 ?_
  refine lv_if_eq (tgt := 17) hx hb dJ0_isLatin1_aae02_3 (by decide) (fun c => absurd c (d_ne bc_1 bc_0 (by decide))) (fun _ => ?_)
  refine lv_aload_n hx hb dJ0_isLatin1_aae02_6 rfl (lv_at hl 0 rfl) ?_
  refine vk_getf hx hb ((hE.1.1.1 1 (by decide)).2.1) hS hown (hT _ tb_1963) (fun _ h9 => h9) dJ0_isLatin1_aae02_7 ?_
  refine lv_if_ne (tgt := 17) hx hb dJ0_isLatin1_aae02_10 (by decide) (fun c => absurd (d_eq bc_0 bc_0) c) (fun _ => ?_)
  refine lv_iconst (v := 1) hx hb dJ0_isLatin1_aae02_13 (by decide) ?_
  refine lv_goto (tgt := 18) hx hb dJ0_isLatin1_aae02_14 (by decide) ?_
  rw [hQ]
  exact kz_i hx hb hr hlocks hS (nz_n bc_1 (by decide) (by decide)) hp0 hw ⟨ok0, (Fr.rf), (b_wid2 bc_1 (by decide) (by decide))⟩ (Nat.le_of_ble_eq_true rfl) (Nat.le_of_ble_eq_true rfl) dJ0_isLatin1_aae02_18

set_option maxRecDepth 100000 in
set_option maxHeartbeats 4000000 in
theorem cJ0_coder_7d493_0 (l : Launch) (G : va_G) (cy : Nat → ClassId) (ev : Ew) (K ln : Nat → Nat) (Ls : List Nat) (hW : SW K ln Ls) (sz : Nat) (hp0 : Nat → Nat → Value) (ok0 : Ok K hp0)   : Met l yJ0_coder_7d493 (WS yJ0_coder_7d493 cJ0_coder_7d493 1 (some .byte)) { frames := 0, cells := 0, slots := 0, locals := 0 } (PB2 [.ref (ev.1.1 1)] sz G cy ev (va_pl Ls (cellOf cy K ln hp0))) (QBi (S := (Nat → Nat → Value)) (fun (r : Int32) (u : (Nat → Nat → Value)) => Ok K u ∧ Fr [] K hp0 u ∧ ((0 : Int) ≤ r.toInt ∧ r.toInt ≤ 0)) G (fun u => va_pl Ls (cellOf cy K ln u)) (va_A (va_pl Ls (cellOf cy K ln hp0)) sz)) 0 0 (va_A (va_pl Ls (cellOf cy K ln hp0)) sz) := by
  refine met_of2 (y := yJ0_coder_7d493) (L := 1) (av := [.ref (ev.1.1 1)]) (Qc := fun A => QBi (S := (Nat → Nat → Value)) (fun (r : Int32) (u : (Nat → Nat → Value)) => Ok K u ∧ Fr [] K hp0 u ∧ ((0 : Int) ≤ r.toInt ∧ r.toInt ≤ 0)) G (fun u => va_pl Ls (cellOf cy K ln u)) A) (plainFor_of_name (by decide)) (Nat.le_of_ble_eq_true rfl) ?_
  intro p e s m below meth c hsz hx hb hr hml hown hT hlocks hin hK A hA hE hw hS ls hl
  have hw : PW G cy K ln Ls A hp0 s.heap := hw
  have hown : s.vm.findClass "java/lang/String" = some m.cls := hown
  have hl : lv_has ls 1 [(0, .ref (ev.1.1 1))] := hl
  obtain ⟨Q, hQ⟩ : ∃ Q : State → Prop, Q = MQ below (QBi (S := (Nat → Nat → Value)) (fun (r : Int32) (u : (Nat → Nat → Value)) => Ok K u ∧ Fr [] K hp0 u ∧ ((0 : Int) ≤ r.toInt ∧ r.toInt ≤ 0)) G (fun u => va_pl Ls (cellOf cy K ln u)) A) ([.ref (ev.1.1 1)] : List Value).toArray s 0 0 A := ⟨_, rfl⟩
  rw [← hQ]
  refine va_gets hx hb hE.1.2.1 hS hown (hT _ tb_309) (fun _ h9 => h9) dJ0_coder_7d493_0 ?_
  refine lv_if_eq (tgt := 13) hx hb dJ0_coder_7d493_3 (by decide) (fun c => absurd c (d_ne bc_1 bc_0 (by decide))) (fun _ => ?_)
  refine lv_aload_n hx hb dJ0_coder_7d493_6 rfl (lv_at hl 0 rfl) ?_
  refine vk_getf hx hb ((hE.1.1.1 1 (by decide)).2.1) hS hown (hT _ tb_1963) (fun _ h9 => h9) dJ0_coder_7d493_7 ?_
  refine lv_goto (tgt := 14) hx hb dJ0_coder_7d493_10 (by decide) ?_
  rw [hQ]
  exact kz_i hx hb hr hlocks hS (rfl) hp0 hw ⟨ok0, (Fr.rf), (b_wid2 bc_0 (by decide) (by decide))⟩ (Nat.le_of_ble_eq_true rfl) (Nat.le_of_ble_eq_true rfl) dJ0_coder_7d493_14

set_option maxRecDepth 100000 in
set_option maxHeartbeats 4000000 in
theorem cJ0_length_8abf5_0 (l : Launch) (G : va_G) (cy : Nat → ClassId) (ev : Ew) (K ln : Nat → Nat) (Ls : List Nat) (hW : SW K ln Ls) (sz : Nat) (hp0 : Nat → Nat → Value) (ok0 : Ok K hp0)   : Met l yJ0_length_8abf5 (WS yJ0_length_8abf5 cJ0_length_8abf5 1 (some .int)) { frames := 1, cells := 0, slots := 0, locals := 20 } (PB2 [.ref (ev.1.1 1)] sz G cy ev (va_pl Ls (cellOf cy K ln hp0))) (QBi (S := (Nat → Nat → Value)) (fun (r : Int32) (u : (Nat → Nat → Value)) => Ok K u ∧ Fr [] K hp0 u) G (fun u => va_pl Ls (cellOf cy K ln u)) (va_A (va_pl Ls (cellOf cy K ln hp0)) sz)) 0 0 (va_A (va_pl Ls (cellOf cy K ln hp0)) sz) := by
  refine met_of2 (y := yJ0_length_8abf5) (L := 1) (av := [.ref (ev.1.1 1)]) (Qc := fun A => QBi (S := (Nat → Nat → Value)) (fun (r : Int32) (u : (Nat → Nat → Value)) => Ok K u ∧ Fr [] K hp0 u) G (fun u => va_pl Ls (cellOf cy K ln u)) A) (plainFor_of_name (by decide)) (Nat.le_of_ble_eq_true rfl) ?_
  intro p e s m below meth c hsz hx hb hr hml hown hT hlocks hin hK A hA hE hw hS ls hl
  have hw : PW G cy K ln Ls A hp0 s.heap := hw
  have hown : s.vm.findClass "java/lang/String" = some m.cls := hown
  have hl : lv_has ls 1 [(0, .ref (ev.1.1 1))] := hl
  obtain ⟨Q, hQ⟩ : ∃ Q : State → Prop, Q = MQ below (QBi (S := (Nat → Nat → Value)) (fun (r : Int32) (u : (Nat → Nat → Value)) => Ok K u ∧ Fr [] K hp0 u) G (fun u => va_pl Ls (cellOf cy K ln u)) A) ([.ref (ev.1.1 1)] : List Value).toArray s 0 0 A := ⟨_, rfl⟩
  rw [← hQ]
  refine lv_aload_n hx hb dJ0_length_8abf5_0 rfl (lv_at hl 0 rfl) ?_
  refine vk_getf hx hb ((hE.1.1.1 1 (by decide)).2.2.1) hS hown (hT _ tb_1962) (fun _ h9 => h9) dJ0_length_8abf5_1 ?_
  refine va_tlen (v := 8) hx hb ((hE.1.1.1 1 (by decide)).2.2.2) hS rfl dJ0_length_8abf5_4 ?_
  refine lv_aload_n hx hb dJ0_length_8abf5_5 rfl (lv_at hl 0 rfl) ?_
  refine kq_i hw hS hA (va_runV (As := []) (rest := [.int 8]) ⟨hx, hb, hml, hown, hT⟩ (cJ0_coder_7d493_0 l G cy ev K ln Ls hW _ hp0 ok0 ) (cwV 0 hT (good_V tb_308 tb_305 tb_306 tb_307 tb_111) rfl rfl rfl (by decide +kernel) ⟨Nat.le_of_ble_eq_true rfl, Nat.le_of_ble_eq_true rfl⟩) (pool_preK (i := 1) hK hE hS hA hw (by decide)) rfl rfl hl.1 rfl (lv_room (Nat.le_of_ble_eq_true rfl)) dJ0_length_8abf5_6 ⟨Nat.le_of_ble_eq_true rfl, Nat.le_of_ble_eq_true rfl⟩) (fun zi5 hp1 H locs hq4 hw hS => ?_)
  obtain ⟨ok2, F3, bd6⟩ := hq4
  obtain rfl : hp0 = hp1 := (Fr.nil F3).symm
  have hw : PW G cy K ln Ls A hp0 H := hw
  refine lv_ishr hx hb dJ0_length_8abf5_9 (lv_topi (fun zi7 ea8 => ?_))
  rw [hQ]
  exact kz_i hx hb hr hlocks hS rfl hp0 hw ⟨ok0, (Fr.rf)⟩ (Nat.le_of_ble_eq_true rfl) (Nat.le_of_ble_eq_true rfl) dJ0_length_8abf5_10

set_option maxRecDepth 100000 in
set_option maxHeartbeats 4000000 in
theorem cJ1_canEncode_9a6ad_0 (l : Launch) (G : va_G) (cy : Nat → ClassId) (ev : Ew) (K ln : Nat → Nat) (Ls : List Nat) (hW : SW K ln Ls) (sz : Nat) (hp0 : Nat → Nat → Value) (ok0 : Ok K hp0) (zi900 : Int32)  : Met l yJ1_canEncode_9a6ad (WS yJ1_canEncode_9a6ad cJ1_canEncode_9a6ad 1 (some .boolean)) { frames := 0, cells := 0, slots := 0, locals := 0 } (PB2 [.int zi900] sz G cy ev (va_pl Ls (cellOf cy K ln hp0))) (QBi (S := (Nat → Nat → Value)) (fun (r : Int32) (u : (Nat → Nat → Value)) => Ok K u ∧ Fr [] K hp0 u ∧ ((0 : Int) ≤ r.toInt ∧ r.toInt ≤ 1) ∧ (r = 1 → ((0 : Int) ≤ zi900.toInt ∧ zi900.toInt ≤ 255))) G (fun u => va_pl Ls (cellOf cy K ln u)) (va_A (va_pl Ls (cellOf cy K ln hp0)) sz)) 0 0 (va_A (va_pl Ls (cellOf cy K ln hp0)) sz) := by
  refine met_of2 (y := yJ1_canEncode_9a6ad) (L := 1) (av := [.int zi900]) (Qc := fun A => QBi (S := (Nat → Nat → Value)) (fun (r : Int32) (u : (Nat → Nat → Value)) => Ok K u ∧ Fr [] K hp0 u ∧ ((0 : Int) ≤ r.toInt ∧ r.toInt ≤ 1) ∧ (r = 1 → ((0 : Int) ≤ zi900.toInt ∧ zi900.toInt ≤ 255))) G (fun u => va_pl Ls (cellOf cy K ln u)) A) (plainFor_of_name (by decide)) (Nat.le_of_ble_eq_true rfl) ?_
  intro p e s m below meth c hsz hx hb hr hml hown hT hlocks hin hK A hA hE hw hS ls hl
  have hw : PW G cy K ln Ls A hp0 s.heap := hw
  have hown : s.vm.findClass "java/lang/StringLatin1" = some m.cls := hown
  have hl : lv_has ls 1 [(0, .int zi900)] := hl
  obtain ⟨Q, hQ⟩ : ∃ Q : State → Prop, Q = MQ below (QBi (S := (Nat → Nat → Value)) (fun (r : Int32) (u : (Nat → Nat → Value)) => Ok K u ∧ Fr [] K hp0 u ∧ ((0 : Int) ≤ r.toInt ∧ r.toInt ≤ 1) ∧ (r = 1 → ((0 : Int) ≤ zi900.toInt ∧ zi900.toInt ≤ 255))) G (fun u => va_pl Ls (cellOf cy K ln u)) A) ([.int zi900] : List Value).toArray s 0 0 A := ⟨_, rfl⟩
  rw [← hQ]
  refine lv_iload_n hx hb dJ1_canEncode_9a6ad_0 rfl (lv_at hl 0 rfl) ?_
  refine lv_if_lt (tgt := 15) hx hb dJ1_canEncode_9a6ad_1 (by decide) (fun cn1 => ?_) (fun cn1 => ?_)
  · skip
    have bd2 : (-2147483648 : Int) ≤ zi900.toInt ∧ zi900.toInt ≤ -1 := r_lt_x cn1 (b_all zi900) bc_0 (by decide) (by decide)
    refine lv_iconst (v := 0) hx hb dJ1_canEncode_9a6ad_15 (by decide) ?_
    rw [hQ]
    exact kz_i hx hb hr hlocks hS (nz_n bc_0 (by decide) (by decide)) hp0 hw ⟨ok0, (Fr.rf), (b_wid2 bc_0 (by decide) (by decide)), (fun h => absurd h (by decide))⟩ (Nat.le_of_ble_eq_true rfl) (Nat.le_of_ble_eq_true rfl) dJ1_canEncode_9a6ad_16
  · skip
    have bd3 : (0 : Int) ≤ zi900.toInt ∧ zi900.toInt ≤ 2147483647 := r_le_y (Int32.not_lt.mp cn1) bc_0 (b_all zi900) (by decide) (by decide)
    refine lv_iload_n hx hb dJ1_canEncode_9a6ad_4 rfl (lv_at hl 0 rfl) ?_
    refine lv_sipush (v := 255) hx hb dJ1_canEncode_9a6ad_5 (by decide) ?_
    refine lv_icmp_gt (tgt := 15) hx hb dJ1_canEncode_9a6ad_8 (by decide) (fun cn4 => ?_) (fun cn4 => ?_)
    · skip
      have bd5 : (256 : Int) ≤ zi900.toInt ∧ zi900.toInt ≤ 2147483647 := r_lt_y cn4 bc_255 bd3 (by decide) (by decide)
      refine lv_iconst (v := 0) hx hb dJ1_canEncode_9a6ad_15 (by decide) ?_
      rw [hQ]
      exact kz_i hx hb hr hlocks hS (nz_n bc_0 (by decide) (by decide)) hp0 hw ⟨ok0, (Fr.rf), (b_wid2 bc_0 (by decide) (by decide)), (fun h => absurd h (by decide))⟩ (Nat.le_of_ble_eq_true rfl) (Nat.le_of_ble_eq_true rfl) dJ1_canEncode_9a6ad_16
    · skip
      have bd6 : (0 : Int) ≤ zi900.toInt ∧ zi900.toInt ≤ 255 := r_le_x (Int32.not_lt.mp cn4) bd3 bc_255 (by decide) (by decide)
      refine lv_iconst (v := 1) hx hb dJ1_canEncode_9a6ad_11 (by decide) ?_
      refine lv_goto (tgt := 16) hx hb dJ1_canEncode_9a6ad_12 (by decide) ?_
      rw [hQ]
      exact kz_i hx hb hr hlocks hS (nz_n bc_1 (by decide) (by decide)) hp0 hw ⟨ok0, (Fr.rf), (b_wid2 bc_1 (by decide) (by decide)), (fun _ => b_wid2 bd6 (by decide) (by decide))⟩ (Nat.le_of_ble_eq_true rfl) (Nat.le_of_ble_eq_true rfl) dJ1_canEncode_9a6ad_16

set_option maxRecDepth 100000 in
set_option maxHeartbeats 4000000 in
theorem cJ1_indexOfChar_4cfef_0 (l : Launch) (G : va_G) (cy : Nat → ClassId) (ev : Ew) (K ln : Nat → Nat) (Ls : List Nat) (hW : SW K ln Ls) (sz : Nat) (hp0 : Nat → Nat → Value) (ok0 : Ok K hp0) (zi901 : Int32) (zi902 : Int32) (zi903 : Int32) (bd902 : ((0 : Int) ≤ zi902.toInt ∧ zi902.toInt ≤ 0)) (bd903 : ((1 : Int) ≤ zi903.toInt ∧ zi903.toInt ≤ 8)) : Met l yJ1_indexOfChar_4cfef (WS yJ1_indexOfChar_4cfef cJ1_indexOfChar_4cfef 6 (some .int)) { frames := 0, cells := 0, slots := 0, locals := 0 } (PB2 [.ref (ev.1.2 1), .int zi901, .int zi902, .int zi903] sz G cy ev (va_pl Ls (cellOf cy K ln hp0))) (QBi (S := (Nat → Nat → Value)) (fun (r : Int32) (u : (Nat → Nat → Value)) => Ok K u ∧ Fr [] K hp0 u ∧ ((-1 : Int) ≤ r.toInt ∧ r.toInt ≤ 7)) G (fun u => va_pl Ls (cellOf cy K ln u)) (va_A (va_pl Ls (cellOf cy K ln hp0)) sz)) 0 0 (va_A (va_pl Ls (cellOf cy K ln hp0)) sz) := by
  refine met_of2 (y := yJ1_indexOfChar_4cfef) (L := 6) (av := [.ref (ev.1.2 1), .int zi901, .int zi902, .int zi903]) (Qc := fun A => QBi (S := (Nat → Nat → Value)) (fun (r : Int32) (u : (Nat → Nat → Value)) => Ok K u ∧ Fr [] K hp0 u ∧ ((-1 : Int) ≤ r.toInt ∧ r.toInt ≤ 7)) G (fun u => va_pl Ls (cellOf cy K ln u)) A) (plainFor_of_name (by decide)) (Nat.le_of_ble_eq_true rfl) ?_
  intro p e s m below meth c hsz hx hb hr hml hown hT hlocks hin hK A hA hE hw hS ls hl
  have hw : PW G cy K ln Ls A hp0 s.heap := hw
  have hown : s.vm.findClass "java/lang/StringLatin1" = some m.cls := hown
  have hl : lv_has ls 6 [(0, .ref (ev.1.2 1)), (1, .int zi901), (2, .int zi902), (3, .int zi903)] := hl
  obtain ⟨Q, hQ⟩ : ∃ Q : State → Prop, Q = MQ below (QBi (S := (Nat → Nat → Value)) (fun (r : Int32) (u : (Nat → Nat → Value)) => Ok K u ∧ Fr [] K hp0 u ∧ ((-1 : Int) ≤ r.toInt ∧ r.toInt ≤ 7)) G (fun u => va_pl Ls (cellOf cy K ln u)) A) ([.ref (ev.1.2 1), .int zi901, .int zi902, .int zi903] : List Value).toArray s 0 0 A := ⟨_, rfl⟩
  rw [← hQ]
  refine lv_iload_n hx hb dJ1_indexOfChar_4cfef_0 rfl (lv_at hl 1 rfl) ?_
  refine lv_i2b hx hb dJ1_indexOfChar_4cfef_1 rfl (lv_topi (fun zi1 ea2 => ?_))
  refine lv_istore (lv' := [(4, .int zi1), (0, .ref (ev.1.2 1)), (1, .int zi901), (2, .int zi902), (3, .int zi903)]) hx hb dJ1_indexOfChar_4cfef_2 hl (by decide) rfl (fun ls hl => ?_)
  refine lv_iload_n hx hb dJ1_indexOfChar_4cfef_4 rfl (lv_at hl 3 rfl) ?_
  refine lv_istore (lv' := [(5, .int zi902), (4, .int zi1), (0, .ref (ev.1.2 1)), (1, .int zi901), (2, .int zi902), (3, .int zi903)]) hx hb dJ1_indexOfChar_4cfef_5 hl (by decide) rfl (fun ls hl => ?_)
  have lp82 : ∀ (n80 : Nat) (zi58 : Int32) (H : Heap) (locs : List Loc) (ls : Array Slot), 8 - zi58.toInt < (n80 : Int) → ((0 : Int) ≤ zi58.toInt ∧ zi58.toInt ≤ 8) → lv_has ls 6 [(0, .ref (ev.1.2 1)), (3, .int zi903), (4, .int zi1), (5, .int zi58)] → PW G cy K ln Ls A hp0 H → va_S A s.heap H locs → W p l e ({ frames := 0, cells := 0, slots := 0, locals := 0 } : Room) s m ([.ref (ev.1.2 1), .int zi901, .int zi902, .int zi903] : List Value).toArray below meth c H locs 0 0 Q (F0 m 7 ls []) := by
    intro n80
    induction n80 with
    | zero =>
      intro zi58 H locs ls hm83 bd59 hl hw hS
      exact absurd hm83 (by have := bd59; omega)
    | succ n80 ih81 =>
      intro zi58 H locs ls hm83 bd59 hl hw hS
      refine lv_iload hx hb dJ1_indexOfChar_4cfef_7 (lv_at hl 3 rfl) ?_
      refine lv_iload_n hx hb dJ1_indexOfChar_4cfef_9 rfl (lv_at hl 1 rfl) ?_
      refine lv_icmp_ge (tgt := 31) hx hb dJ1_indexOfChar_4cfef_10 (by decide) (fun cn84 => ?_) (fun cn84 => ?_)
      · skip
        have bd85 : (1 : Int) ≤ zi58.toInt ∧ zi58.toInt ≤ 8 := r_le_y cn84 bd903 bd59 (by decide) (by decide)
        refine lv_iconst (v := (-1)) hx hb dJ1_indexOfChar_4cfef_31 (by decide) ?_
        rw [hQ]
        exact kz_i hx hb hr hlocks hS rfl hp0 hw ⟨ok0, (Fr.rf), (b_wid2 bc_m1 (by decide) (by decide))⟩ (Nat.le_of_ble_eq_true rfl) (Nat.le_of_ble_eq_true rfl) dJ1_indexOfChar_4cfef_32
      · skip
        have bd86 : (0 : Int) ≤ zi58.toInt ∧ zi58.toInt ≤ 7 := r_lt_x (Int32.not_le.mp cn84) bd59 bd903 (by decide) (by decide)
        refine lv_aload_n hx hb dJ1_indexOfChar_4cfef_13 rfl (lv_at hl 0 rfl) ?_
        refine lv_iload hx hb dJ1_indexOfChar_4cfef_14 (lv_at hl 3 rfl) ?_
        refine va_tb (v := .int ((bytS.getD 1 []).getD (zi58 : Int32).toNatClampNeg 0)) hx hb ((hE.1.1.1 1 (by decide)).2.2.2) hS (vp_b bd86 (by decide) (by decide)) rfl dJ1_indexOfChar_4cfef_16 (lv_topi (fun zi87 _ => ?_))
        refine lv_iload hx hb dJ1_indexOfChar_4cfef_17 (lv_at hl 2 rfl) ?_
        refine lv_icmp_ne (tgt := 25) hx hb dJ1_indexOfChar_4cfef_19 (by decide) (fun cn88 => ?_) (fun cn88 => ?_)
        · skip
          obtain ⟨zi89, ea90⟩ : ∃ z : Int32, z = zi58 + 1 := ⟨_, rfl⟩
          have bd91 : (1 : Int) ≤ zi89.toInt ∧ zi89.toInt ≤ 8 := b_iadd ea90 bd86 bc_1 (by decide) (by decide) (by decide) (by decide)
          have qe92 : zi89.toInt = (zi58 : Int32).toInt + (1 : Int32).toInt := e_iadd ea90 bd86 bc_1 (by decide) (by decide)
          have qe93 : zi89.toInt = zi58.toInt + 1 := by have ha : (1 : Int32).toInt = 1 := (by decide); rw [ha] at qe92; exact qe92
          refine lv_iinc (v := zi89) (lv' := [(5, .int zi89), (0, .ref (ev.1.2 1)), (3, .int zi903), (4, .int zi1)]) hx hb dJ1_indexOfChar_4cfef_25 hl (k := 3) rfl ea90.symm (by decide) rfl (fun ls hl => ?_)
          refine lv_goto (tgt := 7) hx hb dJ1_indexOfChar_4cfef_28 (by decide) ?_
          exact ih81 zi89 _ _ ls (by have := hm83; have := qe93; omega) (b_wid2 bd91 (by decide) (by decide)) (lv_sub hl [1, 2, 3, 0] rfl) hw hS
        · skip
          refine lv_iload hx hb dJ1_indexOfChar_4cfef_22 (lv_at hl 3 rfl) ?_
          rw [hQ]
          exact kz_i hx hb hr hlocks hS rfl hp0 hw ⟨ok0, (Fr.rf), (b_wid2 bd86 (by decide) (by decide))⟩ (Nat.le_of_ble_eq_true rfl) (Nat.le_of_ble_eq_true rfl) dJ1_indexOfChar_4cfef_24
  exact lp82 _ zi902 _ _ ls (lp_in _) (b_wid2 bd902 (by decide) (by decide)) (lv_sub hl [2, 5, 1, 0] rfl) hw hS

set_option maxRecDepth 100000 in
set_option maxHeartbeats 4000000 in
theorem cJ1_indexOf_4cfef_0 (l : Launch) (G : va_G) (cy : Nat → ClassId) (ev : Ew) (K ln : Nat → Nat) (Ls : List Nat) (hW : SW K ln Ls) (sz : Nat) (hp0 : Nat → Nat → Value) (ok0 : Ok K hp0) (zi901 : Int32) (zi902 : Int32) (zi903 : Int32) (bd902 : ((0 : Int) ≤ zi902.toInt ∧ zi902.toInt ≤ 0)) : Met l yJ1_indexOf_4cfef (WS yJ1_indexOf_4cfef cJ1_indexOf_4cfef 4 (some .int)) { frames := 1, cells := 0, slots := 0, locals := 25 } (PB2 [.ref (ev.1.2 1), .int zi901, .int zi902, .int zi903] sz G cy ev (va_pl Ls (cellOf cy K ln hp0))) (QBi (S := (Nat → Nat → Value)) (fun (r : Int32) (u : (Nat → Nat → Value)) => Ok K u ∧ Fr [] K hp0 u ∧ ((-1 : Int) ≤ r.toInt ∧ r.toInt ≤ 7)) G (fun u => va_pl Ls (cellOf cy K ln u)) (va_A (va_pl Ls (cellOf cy K ln hp0)) sz)) 0 0 (va_A (va_pl Ls (cellOf cy K ln hp0)) sz) := by
  refine met_of2 (y := yJ1_indexOf_4cfef) (L := 4) (av := [.ref (ev.1.2 1), .int zi901, .int zi902, .int zi903]) (Qc := fun A => QBi (S := (Nat → Nat → Value)) (fun (r : Int32) (u : (Nat → Nat → Value)) => Ok K u ∧ Fr [] K hp0 u ∧ ((-1 : Int) ≤ r.toInt ∧ r.toInt ≤ 7)) G (fun u => va_pl Ls (cellOf cy K ln u)) A) (plainFor_of_name (by decide)) (Nat.le_of_ble_eq_true rfl) ?_
  intro p e s m below meth c hsz hx hb hr hml hown hT hlocks hin hK A hA hE hw hS ls hl
  have hw : PW G cy K ln Ls A hp0 s.heap := hw
  have hown : s.vm.findClass "java/lang/StringLatin1" = some m.cls := hown
  have hl : lv_has ls 4 [(0, .ref (ev.1.2 1)), (1, .int zi901), (2, .int zi902), (3, .int zi903)] := hl
  obtain ⟨Q, hQ⟩ : ∃ Q : State → Prop, Q = MQ below (QBi (S := (Nat → Nat → Value)) (fun (r : Int32) (u : (Nat → Nat → Value)) => Ok K u ∧ Fr [] K hp0 u ∧ ((-1 : Int) ≤ r.toInt ∧ r.toInt ≤ 7)) G (fun u => va_pl Ls (cellOf cy K ln u)) A) ([.ref (ev.1.2 1), .int zi901, .int zi902, .int zi903] : List Value).toArray s 0 0 A := ⟨_, rfl⟩
  rw [← hQ]
  refine lv_iload_n hx hb dJ1_indexOf_4cfef_0 rfl (lv_at hl 1 rfl) ?_
  refine kq_i hw hS hA (va_runS (As := [.int zi901]) (rest := []) ⟨hx, hb, hml, hown, hT⟩ (cJ1_canEncode_9a6ad_0 l G cy ev K ln Ls hW _ hp0 ok0 zi901) (va_cwS 1 hT (good_S tb_786 tb_784 tb_785 tb_112) rfl rfl rfl (by decide +kernel) ⟨Nat.le_of_ble_eq_true rfl, Nat.le_of_ble_eq_true rfl⟩) (PB2.preS hK hE hS hA hw) rfl rfl hl.1 rfl (lv_room (Nat.le_of_ble_eq_true rfl)) dJ1_indexOf_4cfef_1 ⟨Nat.le_of_ble_eq_true rfl, Nat.le_of_ble_eq_true rfl⟩) (fun zi5 hp1 H locs hq4 hw hS => ?_)
  obtain ⟨ok2, F3, bd6, hc7⟩ := hq4
  obtain rfl : hp0 = hp1 := (Fr.nil F3).symm
  have hw : PW G cy K ln Ls A hp0 H := hw
  rcases b01 bd6 with cn8 | cn8
  · skip
    subst cn8
    refine lv_if_ne (tgt := 9) hx hb dJ1_indexOf_4cfef_4 (by decide) (fun c => absurd (d_eq bc_0 bc_0) c) (fun _ => ?_)
    refine lv_iconst (v := (-1)) hx hb dJ1_indexOf_4cfef_7 (by decide) ?_
    rw [hQ]
    exact kz_i hx hb hr hlocks hS rfl hp0 hw ⟨ok0, (Fr.rf), (b_wid2 bc_m1 (by decide) (by decide))⟩ (Nat.le_of_ble_eq_true rfl) (Nat.le_of_ble_eq_true rfl) dJ1_indexOf_4cfef_8
  · skip
    subst cn8
    have bd9 : (0 : Int) ≤ zi901.toInt ∧ zi901.toInt ≤ 255 := b_meet (b_all zi901) (hc7 rfl) (by decide) (by decide)
    refine lv_if_ne (tgt := 9) hx hb dJ1_indexOf_4cfef_4 (by decide) (fun _ => ?_) (fun c => absurd c (d_ne bc_1 bc_0 (by decide)))
    refine lv_iload_n hx hb dJ1_indexOf_4cfef_9 rfl (lv_at hl 2 rfl) ?_
    refine lv_iconst (v := 0) hx hb dJ1_indexOf_4cfef_10 (by decide) ?_
    refine va_mmax hx hb (hml.trans hl.1.symm) hown (hT _ tb_787) (hT _ tb_788) (hT _ tb_123) (hT _ tb_789) (Nat.le_of_ble_eq_true rfl) (Nat.le_of_ble_eq_true rfl) (Nat.le_of_ble_eq_true rfl) (Nat.le_of_ble_eq_true rfl) dJ1_indexOf_4cfef_11 (lv_topi (fun zi10 ea11 => ?_))
    have bd12 : (0 : Int) ≤ zi10.toInt ∧ zi10.toInt ≤ 0 := b_max ea11 bd902 bc_0 (by decide) (by decide) (by decide)
    refine lv_istore_n (lv' := [(2, .int zi10), (0, .ref (ev.1.2 1)), (1, .int zi901), (3, .int zi903)]) hx hb dJ1_indexOf_4cfef_14 rfl hl (by decide) rfl (fun ls hl => ?_)
    refine lv_iload_n hx hb dJ1_indexOf_4cfef_15 rfl (lv_at hl 3 rfl) ?_
    refine lv_aload_n hx hb dJ1_indexOf_4cfef_16 rfl (lv_at hl 1 rfl) ?_
    refine va_tlen (v := 8) hx hb ((hE.1.1.1 1 (by decide)).2.2.2) hS rfl dJ1_indexOf_4cfef_17 ?_
    refine va_mmin hx hb (hml.trans hl.1.symm) hown (hT _ tb_790) (hT _ tb_791) (hT _ tb_123) (hT _ tb_792) (Nat.le_of_ble_eq_true rfl) (Nat.le_of_ble_eq_true rfl) (Nat.le_of_ble_eq_true rfl) (Nat.le_of_ble_eq_true rfl) dJ1_indexOf_4cfef_18 (lv_topi (fun zi13 ea14 => ?_))
    have bd15 : (-2147483648 : Int) ≤ zi13.toInt ∧ zi13.toInt ≤ 8 := b_min ea14 (b_all zi903) bc_8 (by decide) (by decide) (by decide)
    refine lv_istore_n (lv' := [(3, .int zi13), (2, .int zi10), (0, .ref (ev.1.2 1)), (1, .int zi901)]) hx hb dJ1_indexOf_4cfef_21 rfl hl (by decide) rfl (fun ls hl => ?_)
    refine lv_iload_n hx hb dJ1_indexOf_4cfef_22 rfl (lv_at hl 1 rfl) ?_
    refine lv_iload_n hx hb dJ1_indexOf_4cfef_23 rfl (lv_at hl 0 rfl) ?_
    refine lv_icmp_lt (tgt := 29) hx hb dJ1_indexOf_4cfef_24 (by decide) (fun cn16 => ?_) (fun cn16 => ?_)
    · skip
      have bd17 : (1 : Int) ≤ zi13.toInt ∧ zi13.toInt ≤ 8 := r_lt_y cn16 bd12 bd15 (by decide) (by decide)
      refine lv_aload_n hx hb dJ1_indexOf_4cfef_29 rfl (lv_at hl 2 rfl) ?_
      refine lv_iload_n hx hb dJ1_indexOf_4cfef_30 rfl (lv_at hl 3 rfl) ?_
      refine lv_iload_n hx hb dJ1_indexOf_4cfef_31 rfl (lv_at hl 1 rfl) ?_
      refine lv_iload_n hx hb dJ1_indexOf_4cfef_32 rfl (lv_at hl 0 rfl) ?_
      refine kq_i hw hS hA (va_runS (As := [.ref (ev.1.2 1), .int zi901, .int zi10, .int zi13]) (rest := []) ⟨hx, hb, hml, hown, hT⟩ (cJ1_indexOfChar_4cfef_0 l G cy ev K ln Ls hW _ hp0 ok0 zi901 zi10 zi13 (b_wid2 bd12 (by decide) (by decide)) (b_wid2 bd17 (by decide) (by decide))) (va_cwS 4 hT (good_S tb_795 tb_793 tb_794 tb_112) rfl rfl rfl (by decide +kernel) ⟨Nat.le_of_ble_eq_true rfl, Nat.le_of_ble_eq_true rfl⟩) (PB2.preS hK hE hS hA hw) rfl rfl hl.1 rfl (lv_room (Nat.le_of_ble_eq_true rfl)) dJ1_indexOf_4cfef_33 ⟨Nat.le_of_ble_eq_true rfl, Nat.le_of_ble_eq_true rfl⟩) (fun zi22 hp18 H locs hq21 hw hS => ?_)
      obtain ⟨ok19, F20, bd23⟩ := hq21
      obtain rfl : hp0 = hp18 := (Fr.nil F20).symm
      have hw : PW G cy K ln Ls A hp0 H := hw
      rw [hQ]
      exact kz_i hx hb hr hlocks hS rfl hp0 hw ⟨ok0, (Fr.rf), (b_wid2 bd23 (by decide) (by decide))⟩ (Nat.le_of_ble_eq_true rfl) (Nat.le_of_ble_eq_true rfl) dJ1_indexOf_4cfef_36
    · skip
      have bd24 : (-2147483648 : Int) ≤ zi13.toInt ∧ zi13.toInt ≤ 0 := r_le_x (Int32.not_lt.mp cn16) bd15 bd12 (by decide) (by decide)
      refine lv_iconst (v := (-1)) hx hb dJ1_indexOf_4cfef_27 (by decide) ?_
      rw [hQ]
      exact kz_i hx hb hr hlocks hS rfl hp0 hw ⟨ok0, (Fr.rf), (b_wid2 bc_m1 (by decide) (by decide))⟩ (Nat.le_of_ble_eq_true rfl) (Nat.le_of_ble_eq_true rfl) dJ1_indexOf_4cfef_28

set_option maxRecDepth 100000 in
set_option maxHeartbeats 4000000 in
theorem cJ0_indexOf_7cf53_0 (l : Launch) (G : va_G) (cy : Nat → ClassId) (ev : Ew) (K ln : Nat → Nat) (Ls : List Nat) (hW : SW K ln Ls) (sz : Nat) (hp0 : Nat → Nat → Value) (ok0 : Ok K hp0) (zi901 : Int32) (zi902 : Int32) (bd902 : ((0 : Int) ≤ zi902.toInt ∧ zi902.toInt ≤ 0)) : Met l yJ0_indexOf_7cf53 (WS yJ0_indexOf_7cf53 cJ0_indexOf_7cf53 3 (some .int)) { frames := 2, cells := 0, slots := 0, locals := 48 } (PB2 [.ref (ev.1.1 1), .int zi901, .int zi902] sz G cy ev (va_pl Ls (cellOf cy K ln hp0))) (QBi (S := (Nat → Nat → Value)) (fun (r : Int32) (u : (Nat → Nat → Value)) => Ok K u ∧ Fr [] K hp0 u ∧ ((-1 : Int) ≤ r.toInt ∧ r.toInt ≤ 7)) G (fun u => va_pl Ls (cellOf cy K ln u)) (va_A (va_pl Ls (cellOf cy K ln hp0)) sz)) 0 0 (va_A (va_pl Ls (cellOf cy K ln hp0)) sz) := by
  refine met_of2 (y := yJ0_indexOf_7cf53) (L := 3) (av := [.ref (ev.1.1 1), .int zi901, .int zi902]) (Qc := fun A => QBi (S := (Nat → Nat → Value)) (fun (r : Int32) (u : (Nat → Nat → Value)) => Ok K u ∧ Fr [] K hp0 u ∧ ((-1 : Int) ≤ r.toInt ∧ r.toInt ≤ 7)) G (fun u => va_pl Ls (cellOf cy K ln u)) A) (plainFor_of_name (by decide)) (Nat.le_of_ble_eq_true rfl) ?_
  intro p e s m below meth c hsz hx hb hr hml hown hT hlocks hin hK A hA hE hw hS ls hl
  have hw : PW G cy K ln Ls A hp0 s.heap := hw
  have hown : s.vm.findClass "java/lang/String" = some m.cls := hown
  have hl : lv_has ls 3 [(0, .ref (ev.1.1 1)), (1, .int zi901), (2, .int zi902)] := hl
  obtain ⟨Q, hQ⟩ : ∃ Q : State → Prop, Q = MQ below (QBi (S := (Nat → Nat → Value)) (fun (r : Int32) (u : (Nat → Nat → Value)) => Ok K u ∧ Fr [] K hp0 u ∧ ((-1 : Int) ≤ r.toInt ∧ r.toInt ≤ 7)) G (fun u => va_pl Ls (cellOf cy K ln u)) A) ([.ref (ev.1.1 1), .int zi901, .int zi902] : List Value).toArray s 0 0 A := ⟨_, rfl⟩
  rw [← hQ]
  refine lv_aload_n hx hb dJ0_indexOf_7cf53_0 rfl (lv_at hl 0 rfl) ?_
  refine kq_i hw hS hA (va_runV (As := []) (rest := []) ⟨hx, hb, hml, hown, hT⟩ (cJ0_isLatin1_aae02_0 l G cy ev K ln Ls hW _ hp0 ok0 ) (cwV 0 hT (good_V tb_318 tb_315 tb_316 tb_317 tb_111) rfl rfl rfl (by decide +kernel) ⟨Nat.le_of_ble_eq_true rfl, Nat.le_of_ble_eq_true rfl⟩) (pool_preK (i := 1) hK hE hS hA hw (by decide)) rfl rfl hl.1 rfl (lv_room (Nat.le_of_ble_eq_true rfl)) dJ0_indexOf_7cf53_1 ⟨Nat.le_of_ble_eq_true rfl, Nat.le_of_ble_eq_true rfl⟩) (fun zi5 hp1 H locs hq4 hw hS => ?_)
  obtain ⟨ok2, F3, bd6⟩ := hq4
  obtain rfl : hp0 = hp1 := (Fr.nil F3).symm
  have hw : PW G cy K ln Ls A hp0 H := hw
  refine lv_if_eq (tgt := 23) hx hb dJ0_indexOf_7cf53_4 (by decide) (fun c => absurd c (d_ne bd6 bc_0 (by decide))) (fun _ => ?_)
  refine lv_aload_n hx hb dJ0_indexOf_7cf53_7 rfl (lv_at hl 0 rfl) ?_
  refine vk_getf hx hb ((hE.1.1.1 1 (by decide)).2.2.1) hS hown (hT _ tb_1962) (fun _ h9 => h9) dJ0_indexOf_7cf53_8 ?_
  refine lv_iload_n hx hb dJ0_indexOf_7cf53_11 rfl (lv_at hl 1 rfl) ?_
  refine lv_iload_n hx hb dJ0_indexOf_7cf53_12 rfl (lv_at hl 2 rfl) ?_
  refine lv_aload_n hx hb dJ0_indexOf_7cf53_13 rfl (lv_at hl 0 rfl) ?_
  refine kq_i hw hS hA (va_runV (As := []) (rest := [.int zi902, .int zi901, .ref (ev.1.2 1)]) ⟨hx, hb, hml, hown, hT⟩ (cJ0_length_8abf5_0 l G cy ev K ln Ls hW _ hp0 ok0 ) (cwV 0 hT (good_V tb_304 tb_780 tb_302 tb_303 tb_111) rfl rfl rfl (by decide +kernel) ⟨Nat.le_of_ble_eq_true rfl, Nat.le_of_ble_eq_true rfl⟩) (pool_preK (i := 1) hK hE hS hA hw (by decide)) rfl rfl hl.1 rfl (lv_room (Nat.le_of_ble_eq_true rfl)) dJ0_indexOf_7cf53_14 ⟨Nat.le_of_ble_eq_true rfl, Nat.le_of_ble_eq_true rfl⟩) (fun zi11 hp7 H locs hq10 hw hS => ?_)
  obtain ⟨ok8, F9⟩ := hq10
  obtain rfl : hp0 = hp7 := (Fr.nil F9).symm
  have hw : PW G cy K ln Ls A hp0 H := hw
  refine kq_i hw hS hA (va_runS (As := [.ref (ev.1.2 1), .int zi901, .int zi902, .int zi11]) (rest := []) ⟨hx, hb, hml, hown, hT⟩ (cJ1_indexOf_4cfef_0 l G cy ev K ln Ls hW _ hp0 ok0 zi901 zi902 zi11 (b_wid2 bd902 (by decide) (by decide))) (va_cwS 4 hT (good_S tb_783 tb_781 tb_782 tb_112) rfl rfl rfl (by decide +kernel) ⟨Nat.le_of_ble_eq_true rfl, Nat.le_of_ble_eq_true rfl⟩) (PB2.preS hK hE hS hA hw) rfl rfl hl.1 rfl (lv_room (Nat.le_of_ble_eq_true rfl)) dJ0_indexOf_7cf53_17 ⟨Nat.le_of_ble_eq_true rfl, Nat.le_of_ble_eq_true rfl⟩) (fun zi16 hp12 H locs hq15 hw hS => ?_)
  obtain ⟨ok13, F14, bd17⟩ := hq15
  obtain rfl : hp0 = hp12 := (Fr.nil F14).symm
  have hw : PW G cy K ln Ls A hp0 H := hw
  refine lv_goto (tgt := 36) hx hb dJ0_indexOf_7cf53_20 (by decide) ?_
  rw [hQ]
  exact kz_i hx hb hr hlocks hS rfl hp0 hw ⟨ok0, (Fr.rf), (b_wid2 bd17 (by decide) (by decide))⟩ (Nat.le_of_ble_eq_true rfl) (Nat.le_of_ble_eq_true rfl) dJ0_indexOf_7cf53_36

set_option maxRecDepth 100000 in
set_option maxHeartbeats 4000000 in
theorem cJ0_indexOf_0f7a4_0 (l : Launch) (G : va_G) (cy : Nat → ClassId) (ev : Ew) (K ln : Nat → Nat) (Ls : List Nat) (hW : SW K ln Ls) (sz : Nat) (hp0 : Nat → Nat → Value) (ok0 : Ok K hp0) (zi901 : Int32)  : Met l yJ0_indexOf_0f7a4 (WS yJ0_indexOf_0f7a4 cJ0_indexOf_0f7a4 2 (some .int)) { frames := 3, cells := 0, slots := 0, locals := 70 } (PB2 [.ref (ev.1.1 1), .int zi901] sz G cy ev (va_pl Ls (cellOf cy K ln hp0))) (QBi (S := (Nat → Nat → Value)) (fun (r : Int32) (u : (Nat → Nat → Value)) => Ok K u ∧ Fr [] K hp0 u ∧ ((-1 : Int) ≤ r.toInt ∧ r.toInt ≤ 7)) G (fun u => va_pl Ls (cellOf cy K ln u)) (va_A (va_pl Ls (cellOf cy K ln hp0)) sz)) 0 0 (va_A (va_pl Ls (cellOf cy K ln hp0)) sz) := by
  refine met_of2 (y := yJ0_indexOf_0f7a4) (L := 2) (av := [.ref (ev.1.1 1), .int zi901]) (Qc := fun A => QBi (S := (Nat → Nat → Value)) (fun (r : Int32) (u : (Nat → Nat → Value)) => Ok K u ∧ Fr [] K hp0 u ∧ ((-1 : Int) ≤ r.toInt ∧ r.toInt ≤ 7)) G (fun u => va_pl Ls (cellOf cy K ln u)) A) (plainFor_of_name (by decide)) (Nat.le_of_ble_eq_true rfl) ?_
  intro p e s m below meth c hsz hx hb hr hml hown hT hlocks hin hK A hA hE hw hS ls hl
  have hw : PW G cy K ln Ls A hp0 s.heap := hw
  have hown : s.vm.findClass "java/lang/String" = some m.cls := hown
  have hl : lv_has ls 2 [(0, .ref (ev.1.1 1)), (1, .int zi901)] := hl
  obtain ⟨Q, hQ⟩ : ∃ Q : State → Prop, Q = MQ below (QBi (S := (Nat → Nat → Value)) (fun (r : Int32) (u : (Nat → Nat → Value)) => Ok K u ∧ Fr [] K hp0 u ∧ ((-1 : Int) ≤ r.toInt ∧ r.toInt ≤ 7)) G (fun u => va_pl Ls (cellOf cy K ln u)) A) ([.ref (ev.1.1 1), .int zi901] : List Value).toArray s 0 0 A := ⟨_, rfl⟩
  rw [← hQ]
  refine lv_aload_n hx hb dJ0_indexOf_0f7a4_0 rfl (lv_at hl 0 rfl) ?_
  refine lv_iload_n hx hb dJ0_indexOf_0f7a4_1 rfl (lv_at hl 1 rfl) ?_
  refine lv_iconst (v := 0) hx hb dJ0_indexOf_0f7a4_2 (by decide) ?_
  refine kq_i hw hS hA (va_runV (As := [.int zi901, .int 0]) (rest := []) ⟨hx, hb, hml, hown, hT⟩ (cJ0_indexOf_7cf53_0 l G cy ev K ln Ls hW _ hp0 ok0 zi901 0 (b_wid2 bc_0 (by decide) (by decide))) (cwV 2 hT (good_V tb_779 tb_776 tb_777 tb_778 tb_111) rfl rfl rfl (by decide +kernel) ⟨Nat.le_of_ble_eq_true rfl, Nat.le_of_ble_eq_true rfl⟩) (pool_preK (i := 1) hK hE hS hA hw (by decide)) rfl rfl hl.1 rfl (lv_room (Nat.le_of_ble_eq_true rfl)) dJ0_indexOf_0f7a4_3 ⟨Nat.le_of_ble_eq_true rfl, Nat.le_of_ble_eq_true rfl⟩) (fun zi5 hp1 H locs hq4 hw hS => ?_)
  obtain ⟨ok2, F3, bd6⟩ := hq4
  obtain rfl : hp0 = hp1 := (Fr.nil F3).symm
  have hw : PW G cy K ln Ls A hp0 H := hw
  rw [hQ]
  exact kz_i hx hb hr hlocks hS rfl hp0 hw ⟨ok0, (Fr.rf), (b_wid2 bd6 (by decide) (by decide))⟩ (Nat.le_of_ble_eq_true rfl) (Nat.le_of_ble_eq_true rfl) dJ0_indexOf_0f7a4_6

set_option maxRecDepth 100000 in
set_option maxHeartbeats 4000000 in
theorem cX9_add_0 (l : Launch) (G : va_G) (cy : Nat → ClassId) (ev : Ew) (K ln : Nat → Nat) (Ls : List Nat) (hW : SW K ln Ls) (sz : Nat) (hp0 : Nat → Nat → Value) (ok0 : Ok K hp0) (qa900 : Nat) (zi901 : Int32) (zi902 : Int32) (wl903 : Int64) (kd900 : K qa900 = 10) : Met l yX9_add (WS yX9_add cX9_add 5 none) { frames := 0, cells := 0, slots := 0, locals := 0 } (PB2 [.ref qa900, .int zi901, .int zi902, .long wl903] sz G cy ev (va_pl Ls (cellOf cy K ln hp0))) (QBv (S := (Nat → Nat → Value)) (fun u : (Nat → Nat → Value) => Ok K u ∧ Fr [10004, 44000, 45000, 46000] K hp0 u) G (fun u => va_pl Ls (cellOf cy K ln u)) (va_A (va_pl Ls (cellOf cy K ln hp0)) sz)) 0 0 (va_A (va_pl Ls (cellOf cy K ln hp0)) sz) := by
  refine met_of2 (y := yX9_add) (L := 5) (av := [.ref qa900, .int zi901, .int zi902, .long wl903]) (Qc := fun A => QBv (S := (Nat → Nat → Value)) (fun u : (Nat → Nat → Value) => Ok K u ∧ Fr [10004, 44000, 45000, 46000] K hp0 u) G (fun u => va_pl Ls (cellOf cy K ln u)) A) (plainFor_of_name (by decide)) (Nat.le_of_ble_eq_true rfl) ?_
  intro p e s m below meth c hsz hx hb hr hml hown hT hlocks hin hK A hA hE hw hS ls hl
  have hw : PW G cy K ln Ls A hp0 s.heap := hw
  have hown : s.vm.findClass "LieClock$Tokens" = some m.cls := hown
  have hl : lv_has ls 5 [(0, .ref qa900), (1, .int zi901), (2, .int zi902), (3, .long wl903)] := hl
  obtain ⟨Q, hQ⟩ : ∃ Q : State → Prop, Q = MQ below (QBv (S := (Nat → Nat → Value)) (fun u : (Nat → Nat → Value) => Ok K u ∧ Fr [10004, 44000, 45000, 46000] K hp0 u) G (fun u => va_pl Ls (cellOf cy K ln u)) A) ([.ref qa900, .int zi901, .int zi902, .long wl903] : List Value).toArray s 0 0 A := ⟨_, rfl⟩
  rw [← hQ]
  refine lv_aload_n hx hb dX9_add_0 rfl (lv_at hl 0 rfl) ?_
  obtain ⟨zi2, eq1, bd3⟩ := rd_10004 ok0 kd900
  refine p_get (ci := 9) (v := .int zi2) (C := RX9) (T := TX9) (N := 5) hx hb hT iw_X9 hown hK hw hW kd900 (by decide) rfl rfl 4 (by decide) eq1 (hT _ tb_359) (fun _ h9 => h9) dX9_add_1 ?_
  refine lv_sipush (v := 400) hx hb dX9_add_4 (by decide) ?_
  refine lv_icmp_gt (tgt := 50) hx hb dX9_add_7 (by decide) (fun cn4 => ?_) (fun cn4 => ?_)
  · skip
    have bd5 : (401 : Int) ≤ zi2.toInt ∧ zi2.toInt ≤ 401 := r_lt_y cn4 bc_400 bd3 (by decide) (by decide)
    rw [hQ]
    exact kz_v hx hb hr hlocks hS hp0 hw ⟨ok0, (Fr.rf)⟩ (Nat.le_of_ble_eq_true rfl) (Nat.le_of_ble_eq_true rfl) dX9_add_50
  · skip
    have bd6 : (0 : Int) ≤ zi2.toInt ∧ zi2.toInt ≤ 400 := r_le_x (Int32.not_lt.mp cn4) bd3 bc_400 (by decide) (by decide)
    refine lv_aload_n hx hb dX9_add_10 rfl (lv_at hl 0 rfl) ?_
    obtain ⟨qa8, eq7, kd9⟩ := rd_10000 ok0 kd900
    refine p_get (ci := 9) (v := .ref qa8) (C := RX9) (T := TX9) (N := 5) hx hb hT iw_X9 hown hK hw hW kd900 (by decide) rfl rfl 0 (by decide) eq7 (hT _ tb_353) (fun _ h9 => h9) dX9_add_11 ?_
    refine lv_aload_n hx hb dX9_add_14 rfl (lv_at hl 0 rfl) ?_
    refine p_get (ci := 9) (v := .int zi2) (C := RX9) (T := TX9) (N := 5) hx hb hT iw_X9 hown hK hw hW kd900 (by decide) rfl rfl 4 (by decide) eq1 (hT _ tb_359) (fun _ h9 => h9) dX9_add_15 ?_
    refine lv_iload_n hx hb dX9_add_18 rfl (lv_at hl 1 rfl) ?_
    refine p_iast (x := zi901) hx hb hK hw hS hW kd9 (by decide) rfl (hW.len kd9 (n := 401) rfl (by decide)) (vp_b bd6 (by decide) (by decide)) dX9_add_19 (fun hp10 eh11 H locs hw hS => ?_)
    have ok12 := wr_44000 ok0 kd9 eh11
    refine lv_aload_n hx hb dX9_add_20 rfl (lv_at hl 0 rfl) ?_
    obtain ⟨qa14, eq13, kd15⟩ := rd_10001 ok12 kd900
    refine p_get (ci := 9) (v := .ref qa14) (C := RX9) (T := TX9) (N := 5) hx hb hT iw_X9 hown hK hw hW kd900 (by decide) rfl rfl 1 (by decide) eq13 (hT _ tb_355) (fun _ h9 => h9) dX9_add_21 ?_
    refine lv_aload_n hx hb dX9_add_24 rfl (lv_at hl 0 rfl) ?_
    have eq16 : hp10 qa900 4 = .int zi2 := Eq.trans (up_at eh11 (Or.inl (kd_ne kd900 kd9 (by decide)))) eq1
    refine p_get (ci := 9) (v := .int zi2) (C := RX9) (T := TX9) (N := 5) hx hb hT iw_X9 hown hK hw hW kd900 (by decide) rfl rfl 4 (by decide) eq16 (hT _ tb_359) (fun _ h9 => h9) dX9_add_25 ?_
    refine lv_iload_n hx hb dX9_add_28 rfl (lv_at hl 2 rfl) ?_
    refine p_iast (x := zi902) hx hb hK hw hS hW kd15 (by decide) rfl (hW.len kd15 (n := 401) rfl (by decide)) (vp_b bd6 (by decide) (by decide)) dX9_add_29 (fun hp17 eh18 H locs hw hS => ?_)
    have ok19 := wr_45000 ok12 kd15 eh18
    refine lv_aload_n hx hb dX9_add_30 rfl (lv_at hl 0 rfl) ?_
    obtain ⟨qa21, eq20, kd22⟩ := rd_10002 ok19 kd900
    refine p_get (ci := 9) (v := .ref qa21) (C := RX9) (T := TX9) (N := 5) hx hb hT iw_X9 hown hK hw hW kd900 (by decide) rfl rfl 2 (by decide) eq20 (hT _ tb_356) (fun _ h9 => h9) dX9_add_31 ?_
    refine lv_aload_n hx hb dX9_add_34 rfl (lv_at hl 0 rfl) ?_
    have eq23 : hp17 qa900 4 = .int zi2 := Eq.trans (up_at eh18 (Or.inl (kd_ne kd900 kd15 (by decide)))) eq16
    refine p_get (ci := 9) (v := .int zi2) (C := RX9) (T := TX9) (N := 5) hx hb hT iw_X9 hown hK hw hW kd900 (by decide) rfl rfl 4 (by decide) eq23 (hT _ tb_359) (fun _ h9 => h9) dX9_add_35 ?_
    refine lv_lload_n hx hb dX9_add_38 rfl (lv_at hl 3 rfl) ?_
    refine p_last (x := wl903) hx hb hK hw hS hW kd22 (by decide) rfl (hW.len kd22 (n := 401) rfl (by decide)) (vp_b bd6 (by decide) (by decide)) dX9_add_39 (fun hp24 eh25 H locs hw hS => ?_)
    have ok26 := wr_46000 ok19 kd22 eh25
    refine lv_aload_n hx hb dX9_add_40 rfl (lv_at hl 0 rfl) ?_
    refine lv_dup hx hb dX9_add_41 rfl ?_
    have eq27 : hp24 qa900 4 = .int zi2 := Eq.trans (up_at eh25 (Or.inl (kd_ne kd900 kd22 (by decide)))) eq23
    refine p_get (ci := 9) (v := .int zi2) (C := RX9) (T := TX9) (N := 5) hx hb hT iw_X9 hown hK hw hW kd900 (by decide) rfl rfl 4 (by decide) eq27 (hT _ tb_359) (fun _ h9 => h9) dX9_add_42 ?_
    refine lv_iconst (v := 1) hx hb dX9_add_45 (by decide) ?_
    refine lv_iadd hx hb dX9_add_46 (lv_topi (fun zi28 ea29 => ?_))
    have bd30 : (1 : Int) ≤ zi28.toInt ∧ zi28.toInt ≤ 401 := b_iadd ea29 bd6 bc_1 (by decide) (by decide) (by decide) (by decide)
    have qe31 : zi28.toInt = (zi2 : Int32).toInt + (1 : Int32).toInt := e_iadd ea29 bd6 bc_1 (by decide) (by decide)
    have qe32 : zi28.toInt = zi2.toInt + 1 := by have ha : (1 : Int32).toInt = 1 := (by decide); rw [ha] at qe31; exact qe31
    refine p_put (ci := 9) (v := .int zi28) (ty := .int) (C := RX9) (T := TX9) (N := 5) hx hb hT iw_X9 tyX9 tyX9_ok nmX9 hown hK hw hS hW kd900 (by decide) rfl rfl 4 (by decide) (hT _ tb_359) (fun _ h9 => h9) rfl (by decide +kernel) rfl rfl dX9_add_47 (fun hp33 eh34 H locs hw hS => ?_)
    have ok35 := wr_10004 bd30 (by decide) (by decide) ok26 kd900 eh34
    rw [hQ]
    exact kz_v hx hb hr hlocks hS hp33 hw ⟨ok35, (Fr.put (cq := 10004) (Fr.put (cq := 46000) (Fr.put (cq := 45000) (Fr.put (cq := 44000) (Fr.rf) eh11 kd9 (cd_a (by decide)) (by decide)) eh18 kd15 (cd_a (by decide)) (by decide)) eh25 kd22 (cd_a (by decide)) (by decide)) eh34 kd900 (cd_o (by decide)) (by decide))⟩ (Nat.le_of_ble_eq_true rfl) (Nat.le_of_ble_eq_true rfl) dX9_add_50

set_option maxRecDepth 100000 in
set_option maxHeartbeats 4000000 in
theorem cX9_cutDigits_0 (l : Launch) (G : va_G) (cy : Nat → ClassId) (ev : Ew) (K ln : Nat → Nat) (Ls : List Nat) (hW : SW K ln Ls) (sz : Nat) (hp0 : Nat → Nat → Value) (ok0 : Ok K hp0) (qa900 : Nat) (qa901 : Nat) (zi902 : Int32) (kd900 : K qa900 = 10) (kd901 : K qa901 = 9) : Met l yX9_cutDigits (WS yX9_cutDigits cX9_cutDigits 7 (some .int)) { frames := 1, cells := 0, slots := 0, locals := 24 } (PB2 [.ref qa900, .ref qa901, .int zi902] sz G cy ev (va_pl Ls (cellOf cy K ln hp0))) (QBi (S := (Nat → Nat → Value)) (fun (r : Int32) (u : (Nat → Nat → Value)) => Ok K u ∧ Fr [10004, 44000, 45000, 46000] K hp0 u) G (fun u => va_pl Ls (cellOf cy K ln u)) (va_A (va_pl Ls (cellOf cy K ln hp0)) sz)) 0 0 (va_A (va_pl Ls (cellOf cy K ln hp0)) sz) := by
  refine met_of2 (y := yX9_cutDigits) (L := 7) (av := [.ref qa900, .ref qa901, .int zi902]) (Qc := fun A => QBi (S := (Nat → Nat → Value)) (fun (r : Int32) (u : (Nat → Nat → Value)) => Ok K u ∧ Fr [10004, 44000, 45000, 46000] K hp0 u) G (fun u => va_pl Ls (cellOf cy K ln u)) A) (plainFor_of_name (by decide)) (Nat.le_of_ble_eq_true rfl) ?_
  intro p e s m below meth c hsz hx hb hr hml hown hT hlocks hin hK A hA hE hw hS ls hl
  have hw : PW G cy K ln Ls A hp0 s.heap := hw
  have hown : s.vm.findClass "LieClock$Tokens" = some m.cls := hown
  have hl : lv_has ls 7 [(0, .ref qa900), (1, .ref qa901), (2, .int zi902)] := hl
  obtain ⟨Q, hQ⟩ : ∃ Q : State → Prop, Q = MQ below (QBi (S := (Nat → Nat → Value)) (fun (r : Int32) (u : (Nat → Nat → Value)) => Ok K u ∧ Fr [10004, 44000, 45000, 46000] K hp0 u) G (fun u => va_pl Ls (cellOf cy K ln u)) A) ([.ref qa900, .ref qa901, .int zi902] : List Value).toArray s 0 0 A := ⟨_, rfl⟩
  rw [← hQ]
  refine lv_lconst (v := 0) hx hb dX9_cutDigits_0 (by decide) ?_
  refine lv_lstore_n (lv' := [(3, .long 0), (0, .ref qa900), (1, .ref qa901), (2, .int zi902)]) hx hb dX9_cutDigits_1 rfl hl (by decide) rfl (fun ls hl => ?_)
  refine lv_iload_n hx hb dX9_cutDigits_2 rfl (lv_at hl 3 rfl) ?_
  refine lv_istore (lv' := [(5, .int zi902), (3, .long 0), (0, .ref qa900), (1, .ref qa901), (2, .int zi902)]) hx hb dX9_cutDigits_3 hl (by decide) rfl (fun ls hl => ?_)
  refine lv_iload_n hx hb dX9_cutDigits_5 rfl (lv_at hl 4 rfl) ?_
  refine lv_istore (lv' := [(6, .int zi902), (5, .int zi902), (3, .long 0), (0, .ref qa900), (1, .ref qa901), (2, .int zi902)]) hx hb dX9_cutDigits_6 hl (by decide) rfl (fun ls hl => ?_)
  have jn312 : ∀ (wl310 : Int64) (zi311 : Int32) (H : Heap) (locs : List Loc) (ls : Array Slot), lv_has ls 7 [(0, .ref qa900), (2, .int zi902), (3, .long wl310), (5, .int zi311)] → PW G cy K ln Ls A hp0 H → va_S A s.heap H locs → W p l e ({ frames := 1, cells := 0, slots := 0, locals := 24 } : Room) s m ([.ref qa900, .ref qa901, .int zi902] : List Value).toArray below meth c H locs 0 0 Q (F0 m 71 ls []) := by
    intro wl310 zi311 H locs ls hl hw hS
    refine lv_aload_n hx hb dX9_cutDigits_71 rfl (lv_at hl 0 rfl) ?_
    refine lv_iload hx hb dX9_cutDigits_72 (lv_at hl 3 rfl) ?_
    refine lv_iload_n hx hb dX9_cutDigits_74 rfl (lv_at hl 1 rfl) ?_
    refine lv_isub hx hb dX9_cutDigits_75 (lv_topi (fun zi313 ea314 => ?_))
    refine lv_iconst (v := 4) hx hb dX9_cutDigits_76 (by decide) ?_
    have jn320 : ∀ (zi318 : Int32) (H : Heap) (locs : List Loc) (ls : Array Slot), ((1 : Int) ≤ zi318.toInt ∧ zi318.toInt ≤ 3) → lv_has ls 7 [(2, .int zi902), (3, .long wl310), (5, .int zi311)] → PW G cy K ln Ls A hp0 H → va_S A s.heap H locs → W p l e ({ frames := 1, cells := 0, slots := 0, locals := 24 } : Room) s m ([.ref qa900, .ref qa901, .int zi902] : List Value).toArray below meth c H locs 0 0 Q (F0 m 85 ls [.int zi318, .ref qa900]) := by
      intro zi318 H locs ls bd319 hl hw hS
      refine lv_iload_n hx hb dX9_cutDigits_85 rfl (lv_at hl 0 rfl) ?_
      refine lv_lload_n hx hb dX9_cutDigits_86 rfl (lv_at hl 1 rfl) ?_
      refine kq_v hw hS hA (va_runV (As := [.int zi318, .int zi902, .long wl310]) (rest := []) ⟨hx, hb, hml, hown, hT⟩ (cX9_add_0 l G cy ev K ln Ls hW _ hp0 ok0 qa900 zi318 zi902 wl310 kd900) (cwV 3 hT (good_V tb_761 tb_758 tb_760 tb_3 tb_110) rfl rfl rfl (by decide +kernel) ⟨Nat.le_of_ble_eq_true rfl, Nat.le_of_ble_eq_true rfl⟩) (pool_preV (ci := 9) hK hE hS hA hw hW kd900 (by decide) rfl) rfl rfl hl.1 rfl (lv_room (Nat.le_of_ble_eq_true rfl)) dX9_cutDigits_87 ⟨Nat.le_of_ble_eq_true rfl, Nat.le_of_ble_eq_true rfl⟩) (fun hp321 H locs hq324 hw hS => ?_)
      obtain ⟨ok322, F323⟩ := hq324
      have hw : PW G cy K ln Ls A hp321 H := hw
      refine lv_iload hx hb dX9_cutDigits_90 (lv_at hl 2 rfl) ?_
      rw [hQ]
      exact kz_i hx hb hr hlocks hS rfl hp321 hw ⟨ok322, (Fr.tr (Fr.rf) F323 (by decide))⟩ (Nat.le_of_ble_eq_true rfl) (Nat.le_of_ble_eq_true rfl) dX9_cutDigits_92
    refine lv_icmp_le (tgt := 84) hx hb dX9_cutDigits_77 (by decide) (fun cn315 => ?_) (fun cn315 => ?_)
    · skip
      have bd326 : (-2147483648 : Int) ≤ zi313.toInt ∧ zi313.toInt ≤ 4 := r_le_x cn315 (b_all zi313) bc_4 (by decide) (by decide)
      refine lv_iconst (v := 3) hx hb dX9_cutDigits_84 (by decide) ?_
      exact jn320 3 _ _ ls (b_wid2 bc_3 (by decide) (by decide)) (lv_sub hl [1, 2, 3] rfl) hw hS
    · skip
      have bd327 : (5 : Int) ≤ zi313.toInt ∧ zi313.toInt ≤ 2147483647 := r_lt_y (Int32.not_le.mp cn315) bc_4 (b_all zi313) (by decide) (by decide)
      refine lv_iconst (v := 1) hx hb dX9_cutDigits_80 (by decide) ?_
      refine lv_goto (tgt := 85) hx hb dX9_cutDigits_81 (by decide) ?_
      exact jn320 1 _ _ ls (b_wid2 bc_1 (by decide) (by decide)) (lv_sub hl [1, 2, 3] rfl) hw hS
  have lp330 : ∀ (n328 : Nat) (wl187 : Int64) (zi188 : Int32) (zi189 : Int32) (H : Heap) (locs : List Loc) (ls : Array Slot), 2147483647 - zi189.toInt < (n328 : Int) → lv_has ls 7 [(0, .ref qa900), (1, .ref qa901), (2, .int zi902), (3, .long wl187), (5, .int zi188), (6, .int zi189)] → PW G cy K ln Ls A hp0 H → va_S A s.heap H locs → W p l e ({ frames := 1, cells := 0, slots := 0, locals := 24 } : Room) s m ([.ref qa900, .ref qa901, .int zi902] : List Value).toArray below meth c H locs 0 0 Q (F0 m 8 ls []) := by
    intro n328
    induction n328 with
    | zero =>
      intro wl187 zi188 zi189 H locs ls hm331 hl hw hS
      exact absurd hm331 (by have := (b_all zi189); omega)
    | succ n328 ih329 =>
      intro wl187 zi188 zi189 H locs ls hm331 hl hw hS
      refine lv_iload hx hb dX9_cutDigits_8 (lv_at hl 5 rfl) ?_
      refine lv_aload_n hx hb dX9_cutDigits_10 rfl (lv_at hl 1 rfl) ?_
      obtain ⟨zi333, eq332, bd334⟩ := rd_9001 ok0 kd901
      refine p_getN (ci := 8) (v := .int zi333) (C := RX8) (T := TX8) (N := 2) hx hb hT iw_X8 hown hK hw hW kd901 (by decide) rfl rfl 1 (by decide) eq332 (hK.fl nw_41) (fun _ h9 => h9) dX9_cutDigits_11 ?_
      refine lv_icmp_ge (tgt := 71) hx hb dX9_cutDigits_14 (by decide) (fun cn335 => ?_) (fun cn335 => ?_)
      · skip
        have bd336 : (0 : Int) ≤ zi189.toInt ∧ zi189.toInt ≤ 2147483647 := r_le_y cn335 bd334 (b_all zi189) (by decide) (by decide)
        exact jn312 wl187 zi188 _ _ ls (lv_sub hl [0, 2, 3, 4] rfl) hw hS
      · skip
        have bd337 : (-2147483648 : Int) ≤ zi189.toInt ∧ zi189.toInt ≤ 1999 := r_lt_x (Int32.not_le.mp cn335) (b_all zi189) bd334 (by decide) (by decide)
        refine lv_aload_n hx hb dX9_cutDigits_17 rfl (lv_at hl 1 rfl) ?_
        refine lv_iload hx hb dX9_cutDigits_18 (lv_at hl 5 rfl) ?_
        refine kq_i hw hS hA (va_runV (As := [.int zi189]) (rest := []) ⟨hx, hb, hml, hown, hT⟩ (cX8_at_0 l G cy ev K ln Ls hW _ hp0 ok0 qa901 zi189 kd901) (cwV 1 hT (good_V tb_739 tb_736 tb_737 tb_738 tb_106) rfl rfl rfl (by decide +kernel) ⟨Nat.le_of_ble_eq_true rfl, Nat.le_of_ble_eq_true rfl⟩) (pool_preV (ci := 8) hK hE hS hA hw hW kd901 (by decide) rfl) rfl rfl hl.1 rfl (lv_room (Nat.le_of_ble_eq_true rfl)) dX9_cutDigits_20 ⟨Nat.le_of_ble_eq_true rfl, Nat.le_of_ble_eq_true rfl⟩) (fun zi342 hp338 H locs hq341 hw hS => ?_)
        obtain ⟨ok339, F340, bd343⟩ := hq341
        obtain rfl : hp0 = hp338 := (Fr.nil F340).symm
        have hw : PW G cy K ln Ls A hp0 H := hw
        refine kq_i hw hS hA (va_runS (As := [.int zi342]) (rest := []) ⟨hx, hb, hml, hown, hT⟩ (cX9_isDigit_0 l G cy ev K ln Ls hW _ hp0 ok0 zi342) (va_cwS 1 hT (good_S tb_764 tb_762 tb_763 tb_110) rfl rfl rfl (by decide +kernel) ⟨Nat.le_of_ble_eq_true rfl, Nat.le_of_ble_eq_true rfl⟩) (PB2.preS hK hE hS hA hw) rfl rfl hl.1 rfl (lv_room (Nat.le_of_ble_eq_true rfl)) dX9_cutDigits_23 ⟨Nat.le_of_ble_eq_true rfl, Nat.le_of_ble_eq_true rfl⟩) (fun zi348 hp344 H locs hq347 hw hS => ?_)
        obtain ⟨ok345, F346, bd349, hc350⟩ := hq347
        obtain rfl : hp0 = hp344 := (Fr.nil F346).symm
        have hw : PW G cy K ln Ls A hp0 H := hw
        rcases b01 bd349 with cn351 | cn351
        · skip
          subst cn351
          refine lv_if_eq (tgt := 71) hx hb dX9_cutDigits_26 (by decide) (fun _ => ?_) (fun c => absurd (d_eq bc_0 bc_0) c)
          exact jn312 wl187 zi188 _ _ ls (lv_sub hl [0, 2, 3, 4] rfl) hw hS
        · skip
          subst cn351
          have bd352 : (48 : Int) ≤ zi342.toInt ∧ zi342.toInt ≤ 57 := b_meet bd343 (hc350 rfl) (by decide) (by decide)
          refine lv_if_eq (tgt := 71) hx hb dX9_cutDigits_26 (by decide) (fun c => absurd c (d_ne bc_1 bc_0 (by decide))) (fun _ => ?_)
          refine lv_iload hx hb dX9_cutDigits_29 (lv_at hl 5 rfl) ?_
          refine lv_iload_n hx hb dX9_cutDigits_31 rfl (lv_at hl 2 rfl) ?_
          refine lv_isub hx hb dX9_cutDigits_32 (lv_topi (fun zi353 ea354 => ?_))
          refine lv_iconst (v := 4) hx hb dX9_cutDigits_33 (by decide) ?_
          have jn369 : ∀ (wl368 : Int64) (H : Heap) (locs : List Loc) (ls : Array Slot), lv_has ls 7 [(0, .ref qa900), (1, .ref qa901), (2, .int zi902), (6, .int zi189)] → PW G cy K ln Ls A hp0 H → va_S A s.heap H locs → W p l e ({ frames := 1, cells := 0, slots := 0, locals := 24 } : Room) s m ([.ref qa900, .ref qa901, .int zi902] : List Value).toArray below meth c H locs 0 0 Q (F0 m 58 ls [.long wl368]) := by
            intro wl368 H locs ls hl hw hS
            refine lv_lstore_n (lv' := [(3, .long wl368), (0, .ref qa900), (1, .ref qa901), (2, .int zi902), (6, .int zi189)]) hx hb dX9_cutDigits_58 rfl hl (by decide) rfl (fun ls hl => ?_)
            refine lv_iload hx hb dX9_cutDigits_59 (lv_at hl 4 rfl) ?_
            refine lv_iconst (v := 1) hx hb dX9_cutDigits_61 (by decide) ?_
            refine lv_iadd hx hb dX9_cutDigits_62 (lv_topi (fun zi370 ea371 => ?_))
            have bd372 : (-2147483647 : Int) ≤ zi370.toInt ∧ zi370.toInt ≤ 2000 := b_iadd ea371 bd337 bc_1 (by decide) (by decide) (by decide) (by decide)
            have qe373 : zi370.toInt = (zi189 : Int32).toInt + (1 : Int32).toInt := e_iadd ea371 bd337 bc_1 (by decide) (by decide)
            have qe374 : zi370.toInt = zi189.toInt + 1 := by have ha : (1 : Int32).toInt = 1 := (by decide); rw [ha] at qe373; exact qe373
            refine lv_istore (lv' := [(5, .int zi370), (3, .long wl368), (0, .ref qa900), (1, .ref qa901), (2, .int zi902), (6, .int zi189)]) hx hb dX9_cutDigits_63 hl (by decide) rfl (fun ls hl => ?_)
            obtain ⟨zi375, ea376⟩ : ∃ z : Int32, z = zi189 + 1 := ⟨_, rfl⟩
            have bd377 : (-2147483647 : Int) ≤ zi375.toInt ∧ zi375.toInt ≤ 2000 := b_iadd ea376 bd337 bc_1 (by decide) (by decide) (by decide) (by decide)
            have qe378 : zi375.toInt = (zi189 : Int32).toInt + (1 : Int32).toInt := e_iadd ea376 bd337 bc_1 (by decide) (by decide)
            have qe379 : zi375.toInt = zi189.toInt + 1 := by have ha : (1 : Int32).toInt = 1 := (by decide); rw [ha] at qe378; exact qe378
            refine lv_iinc (v := zi375) (lv' := [(6, .int zi375), (5, .int zi370), (3, .long wl368), (0, .ref qa900), (1, .ref qa901), (2, .int zi902)]) hx hb dX9_cutDigits_65 hl (k := 5) rfl ea376.symm (by decide) rfl (fun ls hl => ?_)
            refine lv_goto (tgt := 8) hx hb dX9_cutDigits_68 (by decide) ?_
            exact ih329 wl368 zi370 zi375 _ _ ls (by have := hm331; have := qe379; omega) (lv_sub hl [3, 4, 5, 2, 1, 0] rfl) hw hS
          refine lv_icmp_ge (tgt := 57) hx hb dX9_cutDigits_34 (by decide) (fun cn355 => ?_) (fun cn355 => ?_)
          · skip
            have bd380 : (4 : Int) ≤ zi353.toInt ∧ zi353.toInt ≤ 2147483647 := r_le_y cn355 bc_4 (b_all zi353) (by decide) (by decide)
            refine lv_lload_n hx hb dX9_cutDigits_57 rfl (lv_at hl 3 rfl) ?_
            exact jn369 wl187 _ _ ls (lv_sub hl [0, 1, 2, 5] rfl) hw hS
          · skip
            have bd381 : (-2147483648 : Int) ≤ zi353.toInt ∧ zi353.toInt ≤ 3 := r_lt_x (Int32.not_le.mp cn355) (b_all zi353) bc_4 (by decide) (by decide)
            refine lv_lload_n hx hb dX9_cutDigits_37 rfl (lv_at hl 3 rfl) ?_
            refine lv_ldc2 (v := 10) hx hb hown (hT _ tb_769) dX9_cutDigits_38 ?_
            refine lv_lmul hx hb dX9_cutDigits_41 (lv_topl (fun wl382 _ => ?_))
            refine lv_aload_n hx hb dX9_cutDigits_42 rfl (lv_at hl 1 rfl) ?_
            refine lv_iload hx hb dX9_cutDigits_43 (lv_at hl 5 rfl) ?_
            refine kq_i hw hS hA (va_runV (As := [.int zi189]) (rest := [.long wl382]) ⟨hx, hb, hml, hown, hT⟩ (cX8_at_0 l G cy ev K ln Ls hW _ hp0 ok0 qa901 zi189 kd901) (cwV 1 hT (good_V tb_739 tb_736 tb_737 tb_738 tb_106) rfl rfl rfl (by decide +kernel) ⟨Nat.le_of_ble_eq_true rfl, Nat.le_of_ble_eq_true rfl⟩) (pool_preV (ci := 8) hK hE hS hA hw hW kd901 (by decide) rfl) rfl rfl hl.1 rfl (lv_room (Nat.le_of_ble_eq_true rfl)) dX9_cutDigits_45 ⟨Nat.le_of_ble_eq_true rfl, Nat.le_of_ble_eq_true rfl⟩) (fun zi387 hp383 H locs hq386 hw hS => ?_)
            obtain ⟨ok384, F385, bd388⟩ := hq386
            obtain rfl : hp0 = hp383 := (Fr.nil F385).symm
            have hw : PW G cy K ln Ls A hp0 H := hw
            refine lv_i2l hx hb dX9_cutDigits_48 rfl (lv_topl (fun wl389 _ => ?_))
            refine lv_ladd hx hb dX9_cutDigits_49 (lv_topl (fun wl390 _ => ?_))
            refine lv_ldc2 (v := 48) hx hb hown (hT _ tb_770) dX9_cutDigits_50 ?_
            refine lv_lsub hx hb dX9_cutDigits_53 (lv_topl (fun wl391 _ => ?_))
            refine lv_goto (tgt := 58) hx hb dX9_cutDigits_54 (by decide) ?_
            exact jn369 wl391 _ _ ls (lv_sub hl [0, 1, 2, 5] rfl) hw hS
  exact lp330 _ 0 zi902 zi902 _ _ ls (lp_in _) (lv_sub hl [3, 4, 5, 2, 1, 0] rfl) hw hS

set_option maxRecDepth 100000 in
set_option maxHeartbeats 4000000 in
theorem cX9_withLetter_0 (l : Launch) (G : va_G) (cy : Nat → ClassId) (ev : Ew) (K ln : Nat → Nat) (Ls : List Nat) (hW : SW K ln Ls) (sz : Nat) (hp0 : Nat → Nat → Value) (ok0 : Ok K hp0) (wl900 : Int64) (zi901 : Int32)  : Met l yX9_withLetter (WS yX9_withLetter cX9_withLetter 3 (some .long)) { frames := 0, cells := 0, slots := 0, locals := 0 } (PB2 [.long wl900, .int zi901] sz G cy ev (va_pl Ls (cellOf cy K ln hp0))) (QBl (S := (Nat → Nat → Value)) (fun (r : Int64) (u : (Nat → Nat → Value)) => Ok K u ∧ Fr [] K hp0 u) G (fun u => va_pl Ls (cellOf cy K ln u)) (va_A (va_pl Ls (cellOf cy K ln hp0)) sz)) 0 0 (va_A (va_pl Ls (cellOf cy K ln hp0)) sz) := by
  refine met_of2 (y := yX9_withLetter) (L := 3) (av := [.long wl900, .int zi901]) (Qc := fun A => QBl (S := (Nat → Nat → Value)) (fun (r : Int64) (u : (Nat → Nat → Value)) => Ok K u ∧ Fr [] K hp0 u) G (fun u => va_pl Ls (cellOf cy K ln u)) A) (plainFor_of_name (by decide)) (Nat.le_of_ble_eq_true rfl) ?_
  intro p e s m below meth c hsz hx hb hr hml hown hT hlocks hin hK A hA hE hw hS ls hl
  have hw : PW G cy K ln Ls A hp0 s.heap := hw
  have hown : s.vm.findClass "LieClock$Tokens" = some m.cls := hown
  have hl : lv_has ls 3 [(0, .long wl900), (2, .int zi901)] := hl
  obtain ⟨Q, hQ⟩ : ∃ Q : State → Prop, Q = MQ below (QBl (S := (Nat → Nat → Value)) (fun (r : Int64) (u : (Nat → Nat → Value)) => Ok K u ∧ Fr [] K hp0 u) G (fun u => va_pl Ls (cellOf cy K ln u)) A) ([.long wl900, .int zi901] : List Value).toArray s 0 0 A := ⟨_, rfl⟩
  rw [← hQ]
  refine lv_lload_n hx hb dX9_withLetter_0 rfl (lv_at hl 0 rfl) ?_
  refine lv_ldc2 (v := 32) hx hb hown (hT _ tb_352) dX9_withLetter_1 ?_
  refine lv_lmul hx hb dX9_withLetter_4 (lv_topl (fun wl1 _ => ?_))
  refine lv_iload_n hx hb dX9_withLetter_5 rfl (lv_at hl 1 rfl) ?_
  refine lv_bipush (v := 97) hx hb dX9_withLetter_6 (by decide) ?_
  refine lv_isub hx hb dX9_withLetter_8 (lv_topi (fun zi2 ea3 => ?_))
  refine lv_iconst (v := 1) hx hb dX9_withLetter_9 (by decide) ?_
  refine lv_iadd hx hb dX9_withLetter_10 (lv_topi (fun zi4 ea5 => ?_))
  refine lv_i2l hx hb dX9_withLetter_11 rfl (lv_topl (fun wl6 _ => ?_))
  refine lv_ladd hx hb dX9_withLetter_12 (lv_topl (fun wl7 _ => ?_))
  rw [hQ]
  exact kz_l hx hb hr hlocks hS hp0 hw ⟨ok0, (Fr.rf)⟩ (Nat.le_of_ble_eq_true rfl) (Nat.le_of_ble_eq_true rfl) dX9_withLetter_13

set_option maxRecDepth 100000 in
set_option maxHeartbeats 4000000 in
theorem cX9_kindOf_0 (l : Launch) (G : va_G) (cy : Nat → ClassId) (ev : Ew) (K ln : Nat → Nat) (Ls : List Nat) (hW : SW K ln Ls) (sz : Nat) (hp0 : Nat → Nat → Value) (ok0 : Ok K hp0) (qa900 : Nat) (wl901 : Int64) (kd900 : K qa900 = 10) : Met l yX9_kindOf (WS yX9_kindOf cX9_kindOf 4 (some .int)) { frames := 0, cells := 0, slots := 0, locals := 0 } (PB2 [.ref qa900, .long wl901] sz G cy ev (va_pl Ls (cellOf cy K ln hp0))) (QBi (S := (Nat → Nat → Value)) (fun (r : Int32) (u : (Nat → Nat → Value)) => Ok K u ∧ Fr [] K hp0 u ∧ ((2 : Int) ≤ r.toInt ∧ r.toInt ≤ 117)) G (fun u => va_pl Ls (cellOf cy K ln u)) (va_A (va_pl Ls (cellOf cy K ln hp0)) sz)) 0 0 (va_A (va_pl Ls (cellOf cy K ln hp0)) sz) := by
  refine met_of2 (y := yX9_kindOf) (L := 4) (av := [.ref qa900, .long wl901]) (Qc := fun A => QBi (S := (Nat → Nat → Value)) (fun (r : Int32) (u : (Nat → Nat → Value)) => Ok K u ∧ Fr [] K hp0 u ∧ ((2 : Int) ≤ r.toInt ∧ r.toInt ≤ 117)) G (fun u => va_pl Ls (cellOf cy K ln u)) A) (plainFor_of_name (by decide)) (Nat.le_of_ble_eq_true rfl) ?_
  intro p e s m below meth c hsz hx hb hr hml hown hT hlocks hin hK A hA hE hw hS ls hl
  have hw : PW G cy K ln Ls A hp0 s.heap := hw
  have hown : s.vm.findClass "LieClock$Tokens" = some m.cls := hown
  have hl : lv_has ls 4 [(0, .ref qa900), (1, .long wl901)] := hl
  obtain ⟨Q, hQ⟩ : ∃ Q : State → Prop, Q = MQ below (QBi (S := (Nat → Nat → Value)) (fun (r : Int32) (u : (Nat → Nat → Value)) => Ok K u ∧ Fr [] K hp0 u ∧ ((2 : Int) ≤ r.toInt ∧ r.toInt ≤ 117)) G (fun u => va_pl Ls (cellOf cy K ln u)) A) ([.ref qa900, .long wl901] : List Value).toArray s 0 0 A := ⟨_, rfl⟩
  rw [← hQ]
  refine lv_iconst (v := 0) hx hb dX9_kindOf_0 (by decide) ?_
  refine lv_istore_n (lv' := [(3, .int 0), (0, .ref qa900), (1, .long wl901)]) hx hb dX9_kindOf_1 rfl hl (by decide) rfl (fun ls hl => ?_)
  have lp155 : ∀ (n153 : Nat) (zi111 : Int32) (H : Heap) (locs : List Loc) (ls : Array Slot), 18 - zi111.toInt < (n153 : Int) → ((0 : Int) ≤ zi111.toInt ∧ zi111.toInt ≤ 18) → lv_has ls 4 [(0, .ref qa900), (1, .long wl901), (3, .int zi111)] → PW G cy K ln Ls A hp0 H → va_S A s.heap H locs → W p l e ({ frames := 0, cells := 0, slots := 0, locals := 0 } : Room) s m ([.ref qa900, .long wl901] : List Value).toArray below meth c H locs 0 0 Q (F0 m 2 ls []) := by
    intro n153
    induction n153 with
    | zero =>
      intro zi111 H locs ls hm156 bd112 hl hw hS
      exact absurd hm156 (by have := bd112; omega)
    | succ n153 ih154 =>
      intro zi111 H locs ls hm156 bd112 hl hw hS
      refine lv_iload_n hx hb dX9_kindOf_2 rfl (lv_at hl 2 rfl) ?_
      refine lv_bipush (v := 18) hx hb dX9_kindOf_3 (by decide) ?_
      refine lv_icmp_ge (tgt := 30) hx hb dX9_kindOf_5 (by decide) (fun cn157 => ?_) (fun cn157 => ?_)
      · skip
        have bd158 : (18 : Int) ≤ zi111.toInt ∧ zi111.toInt ≤ 18 := r_le_y cn157 bc_18 bd112 (by decide) (by decide)
        refine lv_iconst (v := 2) hx hb dX9_kindOf_30 (by decide) ?_
        rw [hQ]
        exact kz_i hx hb hr hlocks hS rfl hp0 hw ⟨ok0, (Fr.rf), (b_wid2 bc_2 (by decide) (by decide))⟩ (Nat.le_of_ble_eq_true rfl) (Nat.le_of_ble_eq_true rfl) dX9_kindOf_31
      · skip
        have bd159 : (0 : Int) ≤ zi111.toInt ∧ zi111.toInt ≤ 17 := r_lt_x (Int32.not_le.mp cn157) bd112 bc_18 (by decide) (by decide)
        refine lv_aload_n hx hb dX9_kindOf_8 rfl (lv_at hl 0 rfl) ?_
        obtain ⟨qa161, eq160, kd162⟩ := rd_10003 ok0 kd900
        refine p_get (ci := 9) (v := .ref qa161) (C := RX9) (T := TX9) (N := 5) hx hb hT iw_X9 hown hK hw hW kd900 (by decide) rfl rfl 3 (by decide) eq160 (hT _ tb_358) (fun _ h9 => h9) dX9_kindOf_9 ?_
        refine lv_iload_n hx hb dX9_kindOf_12 rfl (lv_at hl 2 rfl) ?_
        obtain ⟨wl164, eq163⟩ := rd_47000 ok0 kd162 ((zi111 : Int32).toNatClampNeg)
        refine p_lald (v := wl164) hx hb hK hw hW kd162 (by decide) rfl (hW.len kd162 (n := 18) rfl (by decide)) (vp_b bd159 (by decide) (by decide)) eq163 dX9_kindOf_13 ?_
        refine lv_lload_n hx hb dX9_kindOf_14 rfl (lv_at hl 1 rfl) ?_
        refine W.lcmp hx hb dX9_kindOf_15 (lv_topi (fun zi165 ea166 => ?_))
        refine lv_if_ne (tgt := 24) hx hb dX9_kindOf_16 (by decide) (fun cn167 => ?_) (fun cn167 => ?_)
        · skip
          obtain ⟨zi168, ea169⟩ : ∃ z : Int32, z = zi111 + 1 := ⟨_, rfl⟩
          have bd170 : (1 : Int) ≤ zi168.toInt ∧ zi168.toInt ≤ 18 := b_iadd ea169 bd159 bc_1 (by decide) (by decide) (by decide) (by decide)
          have qe171 : zi168.toInt = (zi111 : Int32).toInt + (1 : Int32).toInt := e_iadd ea169 bd159 bc_1 (by decide) (by decide)
          have qe172 : zi168.toInt = zi111.toInt + 1 := by have ha : (1 : Int32).toInt = 1 := (by decide); rw [ha] at qe171; exact qe171
          refine lv_iinc (v := zi168) (lv' := [(3, .int zi168), (0, .ref qa900), (1, .long wl901)]) hx hb dX9_kindOf_24 hl (k := 2) rfl ea169.symm (by decide) rfl (fun ls hl => ?_)
          refine lv_goto (tgt := 2) hx hb dX9_kindOf_27 (by decide) ?_
          exact ih154 zi168 _ _ ls (by have := hm156; have := qe172; omega) (b_wid2 bd170 (by decide) (by decide)) (lv_sub hl [1, 2, 0] rfl) hw hS
        · skip
          have bd173 : (0 : Int) ≤ zi165.toInt ∧ zi165.toInt ≤ 0 := r_eq_x cn167 (b_all zi165) bc_0 (by decide) (by decide)
          refine lv_bipush (v := 100) hx hb dX9_kindOf_19 (by decide) ?_
          refine lv_iload_n hx hb dX9_kindOf_21 rfl (lv_at hl 2 rfl) ?_
          refine lv_iadd hx hb dX9_kindOf_22 (lv_topi (fun zi174 ea175 => ?_))
          have bd176 : (100 : Int) ≤ zi174.toInt ∧ zi174.toInt ≤ 117 := b_iadd ea175 bc_100 bd159 (by decide) (by decide) (by decide) (by decide)
          rw [hQ]
          exact kz_i hx hb hr hlocks hS rfl hp0 hw ⟨ok0, (Fr.rf), (b_wid2 bd176 (by decide) (by decide))⟩ (Nat.le_of_ble_eq_true rfl) (Nat.le_of_ble_eq_true rfl) dX9_kindOf_23
  exact lp155 _ 0 _ _ ls (lp_in _) (b_wid2 bc_0 (by decide) (by decide)) (lv_sub hl [1, 2, 0] rfl) hw hS

set_option maxRecDepth 100000 in
set_option maxHeartbeats 4000000 in
theorem cX9_cutLetters_0 (l : Launch) (G : va_G) (cy : Nat → ClassId) (ev : Ew) (K ln : Nat → Nat) (Ls : List Nat) (hW : SW K ln Ls) (sz : Nat) (hp0 : Nat → Nat → Value) (ok0 : Ok K hp0) (qa900 : Nat) (qa901 : Nat) (zi902 : Int32) (kd900 : K qa900 = 10) (kd901 : K qa901 = 9) : Met l yX9_cutLetters (WS yX9_cutLetters cX9_cutLetters 7 (some .int)) { frames := 1, cells := 0, slots := 0, locals := 24 } (PB2 [.ref qa900, .ref qa901, .int zi902] sz G cy ev (va_pl Ls (cellOf cy K ln hp0))) (QBi (S := (Nat → Nat → Value)) (fun (r : Int32) (u : (Nat → Nat → Value)) => Ok K u ∧ Fr [10004, 44000, 45000, 46000] K hp0 u) G (fun u => va_pl Ls (cellOf cy K ln u)) (va_A (va_pl Ls (cellOf cy K ln hp0)) sz)) 0 0 (va_A (va_pl Ls (cellOf cy K ln hp0)) sz) := by
  refine met_of2 (y := yX9_cutLetters) (L := 7) (av := [.ref qa900, .ref qa901, .int zi902]) (Qc := fun A => QBi (S := (Nat → Nat → Value)) (fun (r : Int32) (u : (Nat → Nat → Value)) => Ok K u ∧ Fr [10004, 44000, 45000, 46000] K hp0 u) G (fun u => va_pl Ls (cellOf cy K ln u)) A) (plainFor_of_name (by decide)) (Nat.le_of_ble_eq_true rfl) ?_
  intro p e s m below meth c hsz hx hb hr hml hown hT hlocks hin hK A hA hE hw hS ls hl
  have hw : PW G cy K ln Ls A hp0 s.heap := hw
  have hown : s.vm.findClass "LieClock$Tokens" = some m.cls := hown
  have hl : lv_has ls 7 [(0, .ref qa900), (1, .ref qa901), (2, .int zi902)] := hl
  obtain ⟨Q, hQ⟩ : ∃ Q : State → Prop, Q = MQ below (QBi (S := (Nat → Nat → Value)) (fun (r : Int32) (u : (Nat → Nat → Value)) => Ok K u ∧ Fr [10004, 44000, 45000, 46000] K hp0 u) G (fun u => va_pl Ls (cellOf cy K ln u)) A) ([.ref qa900, .ref qa901, .int zi902] : List Value).toArray s 0 0 A := ⟨_, rfl⟩
  rw [← hQ]
  refine lv_lconst (v := 0) hx hb dX9_cutLetters_0 (by decide) ?_
  refine lv_lstore_n (lv' := [(3, .long 0), (0, .ref qa900), (1, .ref qa901), (2, .int zi902)]) hx hb dX9_cutLetters_1 rfl hl (by decide) rfl (fun ls hl => ?_)
  refine lv_iload_n hx hb dX9_cutLetters_2 rfl (lv_at hl 3 rfl) ?_
  refine lv_istore (lv' := [(5, .int zi902), (3, .long 0), (0, .ref qa900), (1, .ref qa901), (2, .int zi902)]) hx hb dX9_cutLetters_3 hl (by decide) rfl (fun ls hl => ?_)
  refine lv_iload_n hx hb dX9_cutLetters_5 rfl (lv_at hl 4 rfl) ?_
  refine lv_istore (lv' := [(6, .int zi902), (5, .int zi902), (3, .long 0), (0, .ref qa900), (1, .ref qa901), (2, .int zi902)]) hx hb dX9_cutLetters_6 hl (by decide) rfl (fun ls hl => ?_)
  have jn322 : ∀ (wl320 : Int64) (zi321 : Int32) (H : Heap) (locs : List Loc) (ls : Array Slot), lv_has ls 7 [(0, .ref qa900), (2, .int zi902), (3, .long wl320), (5, .int zi321)] → PW G cy K ln Ls A hp0 H → va_S A s.heap H locs → W p l e ({ frames := 1, cells := 0, slots := 0, locals := 24 } : Room) s m ([.ref qa900, .ref qa901, .int zi902] : List Value).toArray below meth c H locs 0 0 Q (F0 m 65 ls []) := by
    intro wl320 zi321 H locs ls hl hw hS
    refine lv_aload_n hx hb dX9_cutLetters_65 rfl (lv_at hl 0 rfl) ?_
    refine lv_iload hx hb dX9_cutLetters_66 (lv_at hl 3 rfl) ?_
    refine lv_iload_n hx hb dX9_cutLetters_68 rfl (lv_at hl 1 rfl) ?_
    refine lv_isub hx hb dX9_cutLetters_69 (lv_topi (fun zi323 ea324 => ?_))
    refine lv_bipush (v := 8) hx hb dX9_cutLetters_70 (by decide) ?_
    have jn336 : ∀ (zi334 : Int32) (H : Heap) (locs : List Loc) (ls : Array Slot), ((1 : Int) ≤ zi334.toInt ∧ zi334.toInt ≤ 117) → lv_has ls 7 [(2, .int zi902), (3, .long wl320), (5, .int zi321)] → PW G cy K ln Ls A hp0 H → va_S A s.heap H locs → W p l e ({ frames := 1, cells := 0, slots := 0, locals := 24 } : Room) s m ([.ref qa900, .ref qa901, .int zi902] : List Value).toArray below meth c H locs 0 0 Q (F0 m 84 ls [.int zi334, .ref qa900]) := by
      intro zi334 H locs ls bd335 hl hw hS
      refine lv_iload_n hx hb dX9_cutLetters_84 rfl (lv_at hl 0 rfl) ?_
      refine lv_lload_n hx hb dX9_cutLetters_85 rfl (lv_at hl 1 rfl) ?_
      refine kq_v hw hS hA (va_runV (As := [.int zi334, .int zi902, .long wl320]) (rest := []) ⟨hx, hb, hml, hown, hT⟩ (cX9_add_0 l G cy ev K ln Ls hW _ hp0 ok0 qa900 zi334 zi902 wl320 kd900) (cwV 3 hT (good_V tb_761 tb_758 tb_760 tb_3 tb_110) rfl rfl rfl (by decide +kernel) ⟨Nat.le_of_ble_eq_true rfl, Nat.le_of_ble_eq_true rfl⟩) (pool_preV (ci := 9) hK hE hS hA hw hW kd900 (by decide) rfl) rfl rfl hl.1 rfl (lv_room (Nat.le_of_ble_eq_true rfl)) dX9_cutLetters_86 ⟨Nat.le_of_ble_eq_true rfl, Nat.le_of_ble_eq_true rfl⟩) (fun hp337 H locs hq340 hw hS => ?_)
      obtain ⟨ok338, F339⟩ := hq340
      have hw : PW G cy K ln Ls A hp337 H := hw
      refine lv_iload hx hb dX9_cutLetters_89 (lv_at hl 2 rfl) ?_
      rw [hQ]
      exact kz_i hx hb hr hlocks hS rfl hp337 hw ⟨ok338, (Fr.tr (Fr.rf) F339 (by decide))⟩ (Nat.le_of_ble_eq_true rfl) (Nat.le_of_ble_eq_true rfl) dX9_cutLetters_91
    refine lv_icmp_le (tgt := 79) hx hb dX9_cutLetters_72 (by decide) (fun cn325 => ?_) (fun cn325 => ?_)
    · skip
      have bd342 : (-2147483648 : Int) ≤ zi323.toInt ∧ zi323.toInt ≤ 8 := r_le_x cn325 (b_all zi323) bc_8 (by decide) (by decide)
      refine lv_aload_n hx hb dX9_cutLetters_79 rfl (lv_at hl 0 rfl) ?_
      refine lv_lload_n hx hb dX9_cutLetters_80 rfl (lv_at hl 2 rfl) ?_
      refine kq_i hw hS hA (va_runV (As := [.long wl320]) (rest := [.ref qa900]) ⟨hx, hb, hml, hown, hT⟩ (cX9_kindOf_0 l G cy ev K ln Ls hW _ hp0 ok0 qa900 wl320 kd900) (cwV 1 hT (good_V tb_757 tb_754 tb_756 tb_2 tb_110) rfl rfl rfl (by decide +kernel) ⟨Nat.le_of_ble_eq_true rfl, Nat.le_of_ble_eq_true rfl⟩) (pool_preV (ci := 9) hK hE hS hA hw hW kd900 (by decide) rfl) rfl rfl hl.1 rfl (lv_room (Nat.le_of_ble_eq_true rfl)) dX9_cutLetters_81 ⟨Nat.le_of_ble_eq_true rfl, Nat.le_of_ble_eq_true rfl⟩) (fun zi347 hp343 H locs hq346 hw hS => ?_)
      obtain ⟨ok344, F345, bd348⟩ := hq346
      obtain rfl : hp0 = hp343 := (Fr.nil F345).symm
      have hw : PW G cy K ln Ls A hp0 H := hw
      exact jn336 zi347 _ _ ls (b_wid2 bd348 (by decide) (by decide)) (lv_sub hl [1, 2, 3] rfl) hw hS
    · skip
      have bd349 : (9 : Int) ≤ zi323.toInt ∧ zi323.toInt ≤ 2147483647 := r_lt_y (Int32.not_le.mp cn325) bc_8 (b_all zi323) (by decide) (by decide)
      refine lv_iconst (v := 1) hx hb dX9_cutLetters_75 (by decide) ?_
      refine lv_goto (tgt := 84) hx hb dX9_cutLetters_76 (by decide) ?_
      exact jn336 1 _ _ ls (b_wid2 bc_1 (by decide) (by decide)) (lv_sub hl [1, 2, 3] rfl) hw hS
  have lp352 : ∀ (n350 : Nat) (wl193 : Int64) (zi194 : Int32) (zi195 : Int32) (H : Heap) (locs : List Loc) (ls : Array Slot), 2147483647 - zi195.toInt < (n350 : Int) → lv_has ls 7 [(0, .ref qa900), (1, .ref qa901), (2, .int zi902), (3, .long wl193), (5, .int zi194), (6, .int zi195)] → PW G cy K ln Ls A hp0 H → va_S A s.heap H locs → W p l e ({ frames := 1, cells := 0, slots := 0, locals := 24 } : Room) s m ([.ref qa900, .ref qa901, .int zi902] : List Value).toArray below meth c H locs 0 0 Q (F0 m 8 ls []) := by
    intro n350
    induction n350 with
    | zero =>
      intro wl193 zi194 zi195 H locs ls hm353 hl hw hS
      exact absurd hm353 (by have := (b_all zi195); omega)
    | succ n350 ih351 =>
      intro wl193 zi194 zi195 H locs ls hm353 hl hw hS
      refine lv_iload hx hb dX9_cutLetters_8 (lv_at hl 5 rfl) ?_
      refine lv_aload_n hx hb dX9_cutLetters_10 rfl (lv_at hl 1 rfl) ?_
      obtain ⟨zi355, eq354, bd356⟩ := rd_9001 ok0 kd901
      refine p_getN (ci := 8) (v := .int zi355) (C := RX8) (T := TX8) (N := 2) hx hb hT iw_X8 hown hK hw hW kd901 (by decide) rfl rfl 1 (by decide) eq354 (hK.fl nw_41) (fun _ h9 => h9) dX9_cutLetters_11 ?_
      refine lv_icmp_ge (tgt := 65) hx hb dX9_cutLetters_14 (by decide) (fun cn357 => ?_) (fun cn357 => ?_)
      · skip
        have bd358 : (0 : Int) ≤ zi195.toInt ∧ zi195.toInt ≤ 2147483647 := r_le_y cn357 bd356 (b_all zi195) (by decide) (by decide)
        exact jn322 wl193 zi194 _ _ ls (lv_sub hl [0, 2, 3, 4] rfl) hw hS
      · skip
        have bd359 : (-2147483648 : Int) ≤ zi195.toInt ∧ zi195.toInt ≤ 1999 := r_lt_x (Int32.not_le.mp cn357) (b_all zi195) bd356 (by decide) (by decide)
        refine lv_aload_n hx hb dX9_cutLetters_17 rfl (lv_at hl 1 rfl) ?_
        refine lv_iload hx hb dX9_cutLetters_18 (lv_at hl 5 rfl) ?_
        refine kq_i hw hS hA (va_runV (As := [.int zi195]) (rest := []) ⟨hx, hb, hml, hown, hT⟩ (cX8_at_0 l G cy ev K ln Ls hW _ hp0 ok0 qa901 zi195 kd901) (cwV 1 hT (good_V tb_739 tb_736 tb_737 tb_738 tb_106) rfl rfl rfl (by decide +kernel) ⟨Nat.le_of_ble_eq_true rfl, Nat.le_of_ble_eq_true rfl⟩) (pool_preV (ci := 8) hK hE hS hA hw hW kd901 (by decide) rfl) rfl rfl hl.1 rfl (lv_room (Nat.le_of_ble_eq_true rfl)) dX9_cutLetters_20 ⟨Nat.le_of_ble_eq_true rfl, Nat.le_of_ble_eq_true rfl⟩) (fun zi364 hp360 H locs hq363 hw hS => ?_)
        obtain ⟨ok361, F362, bd365⟩ := hq363
        obtain rfl : hp0 = hp360 := (Fr.nil F362).symm
        have hw : PW G cy K ln Ls A hp0 H := hw
        refine kq_i hw hS hA (va_runS (As := [.int zi364]) (rest := []) ⟨hx, hb, hml, hown, hT⟩ (cX9_isLetter_0 l G cy ev K ln Ls hW _ hp0 ok0 zi364) (va_cwS 1 hT (good_S tb_749 tb_747 tb_748 tb_110) rfl rfl rfl (by decide +kernel) ⟨Nat.le_of_ble_eq_true rfl, Nat.le_of_ble_eq_true rfl⟩) (PB2.preS hK hE hS hA hw) rfl rfl hl.1 rfl (lv_room (Nat.le_of_ble_eq_true rfl)) dX9_cutLetters_23 ⟨Nat.le_of_ble_eq_true rfl, Nat.le_of_ble_eq_true rfl⟩) (fun zi370 hp366 H locs hq369 hw hS => ?_)
        obtain ⟨ok367, F368, bd371, hc372⟩ := hq369
        obtain rfl : hp0 = hp366 := (Fr.nil F368).symm
        have hw : PW G cy K ln Ls A hp0 H := hw
        rcases b01 bd371 with cn373 | cn373
        · skip
          subst cn373
          refine lv_if_eq (tgt := 65) hx hb dX9_cutLetters_26 (by decide) (fun _ => ?_) (fun c => absurd (d_eq bc_0 bc_0) c)
          exact jn322 wl193 zi194 _ _ ls (lv_sub hl [0, 2, 3, 4] rfl) hw hS
        · skip
          subst cn373
          have bd374 : (97 : Int) ≤ zi364.toInt ∧ zi364.toInt ≤ 122 := b_meet bd365 (hc372 rfl) (by decide) (by decide)
          refine lv_if_eq (tgt := 65) hx hb dX9_cutLetters_26 (by decide) (fun c => absurd c (d_ne bc_1 bc_0 (by decide))) (fun _ => ?_)
          refine lv_iload hx hb dX9_cutLetters_29 (lv_at hl 5 rfl) ?_
          refine lv_iload_n hx hb dX9_cutLetters_31 rfl (lv_at hl 2 rfl) ?_
          refine lv_isub hx hb dX9_cutLetters_32 (lv_topi (fun zi375 ea376 => ?_))
          refine lv_bipush (v := 8) hx hb dX9_cutLetters_33 (by decide) ?_
          have jn392 : ∀ (wl391 : Int64) (H : Heap) (locs : List Loc) (ls : Array Slot), lv_has ls 7 [(0, .ref qa900), (1, .ref qa901), (2, .int zi902), (6, .int zi195)] → PW G cy K ln Ls A hp0 H → va_S A s.heap H locs → W p l e ({ frames := 1, cells := 0, slots := 0, locals := 24 } : Room) s m ([.ref qa900, .ref qa901, .int zi902] : List Value).toArray below meth c H locs 0 0 Q (F0 m 52 ls [.long wl391]) := by
            intro wl391 H locs ls hl hw hS
            refine lv_lstore_n (lv' := [(3, .long wl391), (0, .ref qa900), (1, .ref qa901), (2, .int zi902), (6, .int zi195)]) hx hb dX9_cutLetters_52 rfl hl (by decide) rfl (fun ls hl => ?_)
            refine lv_iload hx hb dX9_cutLetters_53 (lv_at hl 4 rfl) ?_
            refine lv_iconst (v := 1) hx hb dX9_cutLetters_55 (by decide) ?_
            refine lv_iadd hx hb dX9_cutLetters_56 (lv_topi (fun zi393 ea394 => ?_))
            have bd395 : (-2147483647 : Int) ≤ zi393.toInt ∧ zi393.toInt ≤ 2000 := b_iadd ea394 bd359 bc_1 (by decide) (by decide) (by decide) (by decide)
            have qe396 : zi393.toInt = (zi195 : Int32).toInt + (1 : Int32).toInt := e_iadd ea394 bd359 bc_1 (by decide) (by decide)
            have qe397 : zi393.toInt = zi195.toInt + 1 := by have ha : (1 : Int32).toInt = 1 := (by decide); rw [ha] at qe396; exact qe396
            refine lv_istore (lv' := [(5, .int zi393), (3, .long wl391), (0, .ref qa900), (1, .ref qa901), (2, .int zi902), (6, .int zi195)]) hx hb dX9_cutLetters_57 hl (by decide) rfl (fun ls hl => ?_)
            obtain ⟨zi398, ea399⟩ : ∃ z : Int32, z = zi195 + 1 := ⟨_, rfl⟩
            have bd400 : (-2147483647 : Int) ≤ zi398.toInt ∧ zi398.toInt ≤ 2000 := b_iadd ea399 bd359 bc_1 (by decide) (by decide) (by decide) (by decide)
            have qe401 : zi398.toInt = (zi195 : Int32).toInt + (1 : Int32).toInt := e_iadd ea399 bd359 bc_1 (by decide) (by decide)
            have qe402 : zi398.toInt = zi195.toInt + 1 := by have ha : (1 : Int32).toInt = 1 := (by decide); rw [ha] at qe401; exact qe401
            refine lv_iinc (v := zi398) (lv' := [(6, .int zi398), (5, .int zi393), (3, .long wl391), (0, .ref qa900), (1, .ref qa901), (2, .int zi902)]) hx hb dX9_cutLetters_59 hl (k := 5) rfl ea399.symm (by decide) rfl (fun ls hl => ?_)
            refine lv_goto (tgt := 8) hx hb dX9_cutLetters_62 (by decide) ?_
            exact ih351 wl391 zi393 zi398 _ _ ls (by have := hm353; have := qe402; omega) (lv_sub hl [3, 4, 5, 2, 1, 0] rfl) hw hS
          refine lv_icmp_ge (tgt := 51) hx hb dX9_cutLetters_35 (by decide) (fun cn377 => ?_) (fun cn377 => ?_)
          · skip
            have bd403 : (8 : Int) ≤ zi375.toInt ∧ zi375.toInt ≤ 2147483647 := r_le_y cn377 bc_8 (b_all zi375) (by decide) (by decide)
            refine lv_lload_n hx hb dX9_cutLetters_51 rfl (lv_at hl 3 rfl) ?_
            exact jn392 wl193 _ _ ls (lv_sub hl [0, 1, 2, 5] rfl) hw hS
          · skip
            have bd404 : (-2147483648 : Int) ≤ zi375.toInt ∧ zi375.toInt ≤ 7 := r_lt_x (Int32.not_le.mp cn377) (b_all zi375) bc_8 (by decide) (by decide)
            refine lv_lload_n hx hb dX9_cutLetters_38 rfl (lv_at hl 3 rfl) ?_
            refine lv_aload_n hx hb dX9_cutLetters_39 rfl (lv_at hl 1 rfl) ?_
            refine lv_iload hx hb dX9_cutLetters_40 (lv_at hl 5 rfl) ?_
            refine kq_i hw hS hA (va_runV (As := [.int zi195]) (rest := [.long wl193]) ⟨hx, hb, hml, hown, hT⟩ (cX8_at_0 l G cy ev K ln Ls hW _ hp0 ok0 qa901 zi195 kd901) (cwV 1 hT (good_V tb_739 tb_736 tb_737 tb_738 tb_106) rfl rfl rfl (by decide +kernel) ⟨Nat.le_of_ble_eq_true rfl, Nat.le_of_ble_eq_true rfl⟩) (pool_preV (ci := 8) hK hE hS hA hw hW kd901 (by decide) rfl) rfl rfl hl.1 rfl (lv_room (Nat.le_of_ble_eq_true rfl)) dX9_cutLetters_42 ⟨Nat.le_of_ble_eq_true rfl, Nat.le_of_ble_eq_true rfl⟩) (fun zi409 hp405 H locs hq408 hw hS => ?_)
            obtain ⟨ok406, F407, bd410⟩ := hq408
            obtain rfl : hp0 = hp405 := (Fr.nil F407).symm
            have hw : PW G cy K ln Ls A hp0 H := hw
            refine kq_l hw hS hA (va_runS (As := [.long wl193, .int zi409]) (rest := []) ⟨hx, hb, hml, hown, hT⟩ (cX9_withLetter_0 l G cy ev K ln Ls hW _ hp0 ok0 wl193 zi409) (va_cwS 2 hT (good_S tb_351 tb_349 tb_350 tb_110) rfl rfl rfl (by decide +kernel) ⟨Nat.le_of_ble_eq_true rfl, Nat.le_of_ble_eq_true rfl⟩) (PB2.preS hK hE hS hA hw) rfl rfl hl.1 rfl (lv_room (Nat.le_of_ble_eq_true rfl)) dX9_cutLetters_45 ⟨Nat.le_of_ble_eq_true rfl, Nat.le_of_ble_eq_true rfl⟩) (fun wl415 hp411 H locs hq414 hw hS => ?_)
            obtain ⟨ok412, F413⟩ := hq414
            obtain rfl : hp0 = hp411 := (Fr.nil F413).symm
            have hw : PW G cy K ln Ls A hp0 H := hw
            refine lv_goto (tgt := 52) hx hb dX9_cutLetters_48 (by decide) ?_
            exact jn392 wl415 _ _ ls (lv_sub hl [0, 1, 2, 5] rfl) hw hS
  exact lp352 _ 0 zi902 zi902 _ _ ls (lp_in _) (lv_sub hl [3, 4, 5, 2, 1, 0] rfl) hw hS

set_option maxRecDepth 100000 in
set_option maxHeartbeats 4000000 in
theorem cX9_cutOne_0 (l : Launch) (G : va_G) (cy : Nat → ClassId) (ev : Ew) (K ln : Nat → Nat) (Ls : List Nat) (hW : SW K ln Ls) (sz : Nat) (hp0 : Nat → Nat → Value) (ok0 : Ok K hp0) (qa900 : Nat) (qa901 : Nat) (zi902 : Int32) (kd900 : K qa900 = 10) (kd901 : K qa901 = 9) : Met l yX9_cutOne (WS yX9_cutOne cX9_cutOne 4 (some .int)) { frames := 4, cells := 0, slots := 0, locals := 91 } (PB2 [.ref qa900, .ref qa901, .int zi902] sz G cy ev (va_pl Ls (cellOf cy K ln hp0))) (QBi (S := (Nat → Nat → Value)) (fun (r : Int32) (u : (Nat → Nat → Value)) => Ok K u ∧ Fr [10004, 44000, 45000, 46000] K hp0 u) G (fun u => va_pl Ls (cellOf cy K ln u)) (va_A (va_pl Ls (cellOf cy K ln hp0)) sz)) 0 0 (va_A (va_pl Ls (cellOf cy K ln hp0)) sz) := by
  refine met_of2 (y := yX9_cutOne) (L := 4) (av := [.ref qa900, .ref qa901, .int zi902]) (Qc := fun A => QBi (S := (Nat → Nat → Value)) (fun (r : Int32) (u : (Nat → Nat → Value)) => Ok K u ∧ Fr [10004, 44000, 45000, 46000] K hp0 u) G (fun u => va_pl Ls (cellOf cy K ln u)) A) (plainFor_of_name (by decide)) (Nat.le_of_ble_eq_true rfl) ?_
  intro p e s m below meth c hsz hx hb hr hml hown hT hlocks hin hK A hA hE hw hS ls hl
  have hw : PW G cy K ln Ls A hp0 s.heap := hw
  have hown : s.vm.findClass "LieClock$Tokens" = some m.cls := hown
  have hl : lv_has ls 4 [(0, .ref qa900), (1, .ref qa901), (2, .int zi902)] := hl
  obtain ⟨Q, hQ⟩ : ∃ Q : State → Prop, Q = MQ below (QBi (S := (Nat → Nat → Value)) (fun (r : Int32) (u : (Nat → Nat → Value)) => Ok K u ∧ Fr [10004, 44000, 45000, 46000] K hp0 u) G (fun u => va_pl Ls (cellOf cy K ln u)) A) ([.ref qa900, .ref qa901, .int zi902] : List Value).toArray s 0 0 A := ⟨_, rfl⟩
  rw [← hQ]
  refine lv_aload_n hx hb dX9_cutOne_0 rfl (lv_at hl 1 rfl) ?_
  refine lv_iload_n hx hb dX9_cutOne_1 rfl (lv_at hl 2 rfl) ?_
  refine kq_i hw hS hA (va_runV (As := [.int zi902]) (rest := []) ⟨hx, hb, hml, hown, hT⟩ (cX8_at_0 l G cy ev K ln Ls hW _ hp0 ok0 qa901 zi902 kd901) (cwV 1 hT (good_V tb_739 tb_736 tb_737 tb_738 tb_106) rfl rfl rfl (by decide +kernel) ⟨Nat.le_of_ble_eq_true rfl, Nat.le_of_ble_eq_true rfl⟩) (pool_preV (ci := 8) hK hE hS hA hw hW kd901 (by decide) rfl) rfl rfl hl.1 rfl (lv_room (Nat.le_of_ble_eq_true rfl)) dX9_cutOne_2 ⟨Nat.le_of_ble_eq_true rfl, Nat.le_of_ble_eq_true rfl⟩) (fun zi5 hp1 H locs hq4 hw hS => ?_)
  obtain ⟨ok2, F3, bd6⟩ := hq4
  obtain rfl : hp0 = hp1 := (Fr.nil F3).symm
  have hw : PW G cy K ln Ls A hp0 H := hw
  refine lv_istore_n (lv' := [(3, .int zi5), (0, .ref qa900), (1, .ref qa901), (2, .int zi902)]) hx hb dX9_cutOne_5 rfl hl (by decide) rfl (fun ls hl => ?_)
  refine lv_iload_n hx hb dX9_cutOne_6 rfl (lv_at hl 0 rfl) ?_
  refine kq_i hw hS hA (va_runS (As := [.int zi5]) (rest := []) ⟨hx, hb, hml, hown, hT⟩ (cX9_isLetter_0 l G cy ev K ln Ls hW _ hp0 ok0 zi5) (va_cwS 1 hT (good_S tb_749 tb_747 tb_748 tb_110) rfl rfl rfl (by decide +kernel) ⟨Nat.le_of_ble_eq_true rfl, Nat.le_of_ble_eq_true rfl⟩) (PB2.preS hK hE hS hA hw) rfl rfl hl.1 rfl (lv_room (Nat.le_of_ble_eq_true rfl)) dX9_cutOne_7 ⟨Nat.le_of_ble_eq_true rfl, Nat.le_of_ble_eq_true rfl⟩) (fun zi11 hp7 H locs hq10 hw hS => ?_)
  obtain ⟨ok8, F9, bd12, hc13⟩ := hq10
  obtain rfl : hp0 = hp7 := (Fr.nil F9).symm
  have hw : PW G cy K ln Ls A hp0 H := hw
  rcases b01 bd12 with cn14 | cn14
  · skip
    subst cn14
    refine lv_if_eq (tgt := 20) hx hb dX9_cutOne_10 (by decide) (fun _ => ?_) (fun c => absurd (d_eq bc_0 bc_0) c)
    refine lv_iload_n hx hb dX9_cutOne_20 rfl (lv_at hl 0 rfl) ?_
    refine kq_i hw hS hA (va_runS (As := [.int zi5]) (rest := []) ⟨hx, hb, hml, hown, hT⟩ (cX9_isDigit_0 l G cy ev K ln Ls hW _ hp0 ok0 zi5) (va_cwS 1 hT (good_S tb_764 tb_762 tb_763 tb_110) rfl rfl rfl (by decide +kernel) ⟨Nat.le_of_ble_eq_true rfl, Nat.le_of_ble_eq_true rfl⟩) (PB2.preS hK hE hS hA hw) rfl rfl hl.1 rfl (lv_room (Nat.le_of_ble_eq_true rfl)) dX9_cutOne_21 ⟨Nat.le_of_ble_eq_true rfl, Nat.le_of_ble_eq_true rfl⟩) (fun zi19 hp15 H locs hq18 hw hS => ?_)
    obtain ⟨ok16, F17, bd20, hc21⟩ := hq18
    obtain rfl : hp0 = hp15 := (Fr.nil F17).symm
    have hw : PW G cy K ln Ls A hp0 H := hw
    rcases b01 bd20 with cn22 | cn22
    · skip
      subst cn22
      refine lv_if_eq (tgt := 34) hx hb dX9_cutOne_24 (by decide) (fun _ => ?_) (fun c => absurd (d_eq bc_0 bc_0) c)
      refine lv_iload_n hx hb dX9_cutOne_34 rfl (lv_at hl 0 rfl) ?_
      refine lv_iconst (v := (-1)) hx hb dX9_cutOne_35 (by decide) ?_
      have jn56 : ∀ (hp53 : Nat → Nat → Value)  (H : Heap) (locs : List Loc) (ls : Array Slot), Ok K hp53 → Fr [10004, 44000, 45000, 46000] K hp0 hp53 → lv_has ls 4 [(2, .int zi902)] → PW G cy K ln Ls A hp53 H → va_S A s.heap H locs → W p l e ({ frames := 4, cells := 0, slots := 0, locals := 91 } : Room) s m ([.ref qa900, .ref qa901, .int zi902] : List Value).toArray below meth c H locs 0 0 Q (F0 m 70 ls []) := by
        intro hp53 H locs ls ok55 F54 hl hw hS
        refine lv_iload_n hx hb dX9_cutOne_70 rfl (lv_at hl 0 rfl) ?_
        refine lv_iconst (v := 1) hx hb dX9_cutOne_71 (by decide) ?_
        refine lv_iadd hx hb dX9_cutOne_72 (lv_topi (fun zi57 ea58 => ?_))
        rw [hQ]
        exact kz_i hx hb hr hlocks hS rfl hp53 hw ⟨ok55, (Fr.tr (Fr.rf) F54 (by decide))⟩ (Nat.le_of_ble_eq_true rfl) (Nat.le_of_ble_eq_true rfl) dX9_cutOne_73
      refine lv_icmp_ne (tgt := 49) hx hb dX9_cutOne_36 (by decide) (fun cn23 => ?_) (fun cn23 => ?_)
      · skip
        have bd59 : (0 : Int) ≤ zi5.toInt ∧ zi5.toInt ≤ 255 := r_ne_lo cn23 bd6 (toi bc_m1) (by decide) (by decide)
        refine lv_aload_n hx hb dX9_cutOne_49 rfl (lv_at hl 1 rfl) ?_
        refine va_ldcS hx hb hown hE.1.2.2.2.2 dX9_cutOne_50 ?_
        refine lv_iload_n hx hb dX9_cutOne_52 rfl (lv_at hl 0 rfl) ?_
        refine lv_i2c hx hb dX9_cutOne_53 rfl (lv_topi (fun zi60 ea61 => ?_))
        have bd62 : (0 : Int) ≤ zi60.toInt ∧ zi60.toInt ≤ 65535 := i2c_b ea61
        refine kq_i hw hS hA (va_runV (As := [.int zi60]) (rest := [.ref qa900]) ⟨hx, hb, hml, hown, hT⟩ (cJ0_indexOf_0f7a4_0 l G cy ev K ln Ls hW _ hp0 ok0 zi60) (cwV 1 hT (good_V tb_775 tb_772 tb_773 tb_774 tb_111) rfl rfl rfl (by decide +kernel) ⟨Nat.le_of_ble_eq_true rfl, Nat.le_of_ble_eq_true rfl⟩) (pool_preK (i := 1) hK hE hS hA hw (by decide)) rfl rfl hl.1 rfl (lv_room (Nat.le_of_ble_eq_true rfl)) dX9_cutOne_54 ⟨Nat.le_of_ble_eq_true rfl, Nat.le_of_ble_eq_true rfl⟩) (fun zi67 hp63 H locs hq66 hw hS => ?_)
        obtain ⟨ok64, F65, bd68⟩ := hq66
        obtain rfl : hp0 = hp63 := (Fr.nil F65).symm
        have hw : PW G cy K ln Ls A hp0 H := hw
        have jn74 : ∀ (zi72 : Int32) (H : Heap) (locs : List Loc) (ls : Array Slot), ((0 : Int) ≤ zi72.toInt ∧ zi72.toInt ≤ 255) → lv_has ls 4 [(2, .int zi902)] → PW G cy K ln Ls A hp0 H → va_S A s.heap H locs → W p l e ({ frames := 4, cells := 0, slots := 0, locals := 91 } : Room) s m ([.ref qa900, .ref qa901, .int zi902] : List Value).toArray below meth c H locs 0 0 Q (F0 m 65 ls [.int zi72, .ref qa900]) := by
          intro zi72 H locs ls bd73 hl hw hS
          refine lv_iload_n hx hb dX9_cutOne_65 rfl (lv_at hl 0 rfl) ?_
          refine lv_lconst (v := 0) hx hb dX9_cutOne_66 (by decide) ?_
          refine kq_v hw hS hA (va_runV (As := [.int zi72, .int zi902, .long 0]) (rest := []) ⟨hx, hb, hml, hown, hT⟩ (cX9_add_0 l G cy ev K ln Ls hW _ hp0 ok0 qa900 zi72 zi902 0 kd900) (cwV 3 hT (good_V tb_761 tb_758 tb_760 tb_3 tb_110) rfl rfl rfl (by decide +kernel) ⟨Nat.le_of_ble_eq_true rfl, Nat.le_of_ble_eq_true rfl⟩) (pool_preV (ci := 9) hK hE hS hA hw hW kd900 (by decide) rfl) rfl rfl hl.1 rfl (lv_room (Nat.le_of_ble_eq_true rfl)) dX9_cutOne_67 ⟨Nat.le_of_ble_eq_true rfl, Nat.le_of_ble_eq_true rfl⟩) (fun hp75 H locs hq78 hw hS => ?_)
          obtain ⟨ok76, F77⟩ := hq78
          have hw : PW G cy K ln Ls A hp75 H := hw
          exact jn56 hp75 _ _ ls ok76 (Fr.tr (Fr.rf) F77 (by decide)) (lv_sub hl [0] rfl) hw hS
        refine lv_if_lt (tgt := 64) hx hb dX9_cutOne_57 (by decide) (fun cn69 => ?_) (fun cn69 => ?_)
        · skip
          have bd80 : (-1 : Int) ≤ zi67.toInt ∧ zi67.toInt ≤ -1 := r_lt_x cn69 bd68 bc_0 (by decide) (by decide)
          refine lv_iconst (v := 1) hx hb dX9_cutOne_64 (by decide) ?_
          exact jn74 1 _ _ ls (b_wid2 bc_1 (by decide) (by decide)) (lv_sub hl [3] rfl) hw hS
        · skip
          have bd81 : (0 : Int) ≤ zi67.toInt ∧ zi67.toInt ≤ 7 := r_le_y (Int32.not_lt.mp cn69) bc_0 bd68 (by decide) (by decide)
          refine lv_iload_n hx hb dX9_cutOne_60 rfl (lv_at hl 0 rfl) ?_
          refine lv_goto (tgt := 65) hx hb dX9_cutOne_61 (by decide) ?_
          exact jn74 zi5 _ _ ls (b_wid2 bd59 (by decide) (by decide)) (lv_sub hl [3] rfl) hw hS
      · skip
        have bd82 : (-1 : Int) ≤ zi5.toInt ∧ zi5.toInt ≤ -1 := r_eq_x cn23 bd6 bc_m1 (by decide) (by decide)
        refine lv_aload_n hx hb dX9_cutOne_39 rfl (lv_at hl 1 rfl) ?_
        refine lv_iconst (v := 0) hx hb dX9_cutOne_40 (by decide) ?_
        refine lv_iload_n hx hb dX9_cutOne_41 rfl (lv_at hl 3 rfl) ?_
        refine lv_lconst (v := 0) hx hb dX9_cutOne_42 (by decide) ?_
        refine kq_v hw hS hA (va_runV (As := [.int 0, .int zi902, .long 0]) (rest := []) ⟨hx, hb, hml, hown, hT⟩ (cX9_add_0 l G cy ev K ln Ls hW _ hp0 ok0 qa900 0 zi902 0 kd900) (cwV 3 hT (good_V tb_761 tb_758 tb_760 tb_3 tb_110) rfl rfl rfl (by decide +kernel) ⟨Nat.le_of_ble_eq_true rfl, Nat.le_of_ble_eq_true rfl⟩) (pool_preV (ci := 9) hK hE hS hA hw hW kd900 (by decide) rfl) rfl rfl hl.1 rfl (lv_room (Nat.le_of_ble_eq_true rfl)) dX9_cutOne_43 ⟨Nat.le_of_ble_eq_true rfl, Nat.le_of_ble_eq_true rfl⟩) (fun hp83 H locs hq86 hw hS => ?_)
        obtain ⟨ok84, F85⟩ := hq86
        have hw : PW G cy K ln Ls A hp83 H := hw
        refine lv_goto (tgt := 70) hx hb dX9_cutOne_46 (by decide) ?_
        exact jn56 hp83 _ _ ls ok84 (Fr.tr (Fr.rf) F85 (by decide)) (lv_sub hl [3] rfl) hw hS
    · skip
      subst cn22
      have bd88 : (48 : Int) ≤ zi5.toInt ∧ zi5.toInt ≤ 57 := b_meet bd6 (hc21 rfl) (by decide) (by decide)
      refine lv_if_eq (tgt := 34) hx hb dX9_cutOne_24 (by decide) (fun c => absurd c (d_ne bc_1 bc_0 (by decide))) (fun _ => ?_)
      refine lv_aload_n hx hb dX9_cutOne_27 rfl (lv_at hl 1 rfl) ?_
      refine lv_aload_n hx hb dX9_cutOne_28 rfl (lv_at hl 2 rfl) ?_
      refine lv_iload_n hx hb dX9_cutOne_29 rfl (lv_at hl 3 rfl) ?_
      refine kq_i hw hS hA (va_runV (As := [.ref qa901, .int zi902]) (rest := []) ⟨hx, hb, hml, hown, hT⟩ (cX9_cutDigits_0 l G cy ev K ln Ls hW _ hp0 ok0 qa900 qa901 zi902 kd900 kd901) (cwV 2 hT (good_V tb_768 tb_765 tb_767 tb_4 tb_110) rfl rfl rfl (by decide +kernel) ⟨Nat.le_of_ble_eq_true rfl, Nat.le_of_ble_eq_true rfl⟩) (pool_preV (ci := 9) hK hE hS hA hw hW kd900 (by decide) rfl) rfl rfl hl.1 rfl (lv_room (Nat.le_of_ble_eq_true rfl)) dX9_cutOne_30 ⟨Nat.le_of_ble_eq_true rfl, Nat.le_of_ble_eq_true rfl⟩) (fun zi93 hp89 H locs hq92 hw hS => ?_)
      obtain ⟨ok90, F91⟩ := hq92
      have hw : PW G cy K ln Ls A hp89 H := hw
      rw [hQ]
      exact kz_i hx hb hr hlocks hS rfl hp89 hw ⟨ok90, (Fr.tr (Fr.rf) F91 (by decide))⟩ (Nat.le_of_ble_eq_true rfl) (Nat.le_of_ble_eq_true rfl) dX9_cutOne_33
  · skip
    subst cn14
    have bd94 : (97 : Int) ≤ zi5.toInt ∧ zi5.toInt ≤ 122 := b_meet bd6 (hc13 rfl) (by decide) (by decide)
    refine lv_if_eq (tgt := 20) hx hb dX9_cutOne_10 (by decide) (fun c => absurd c (d_ne bc_1 bc_0 (by decide))) (fun _ => ?_)
    refine lv_aload_n hx hb dX9_cutOne_13 rfl (lv_at hl 1 rfl) ?_
    refine lv_aload_n hx hb dX9_cutOne_14 rfl (lv_at hl 2 rfl) ?_
    refine lv_iload_n hx hb dX9_cutOne_15 rfl (lv_at hl 3 rfl) ?_
    refine kq_i hw hS hA (va_runV (As := [.ref qa901, .int zi902]) (rest := []) ⟨hx, hb, hml, hown, hT⟩ (cX9_cutLetters_0 l G cy ev K ln Ls hW _ hp0 ok0 qa900 qa901 zi902 kd900 kd901) (cwV 2 hT (good_V tb_753 tb_750 tb_752 tb_1 tb_110) rfl rfl rfl (by decide +kernel) ⟨Nat.le_of_ble_eq_true rfl, Nat.le_of_ble_eq_true rfl⟩) (pool_preV (ci := 9) hK hE hS hA hw hW kd900 (by decide) rfl) rfl rfl hl.1 rfl (lv_room (Nat.le_of_ble_eq_true rfl)) dX9_cutOne_16 ⟨Nat.le_of_ble_eq_true rfl, Nat.le_of_ble_eq_true rfl⟩) (fun zi99 hp95 H locs hq98 hw hS => ?_)
    obtain ⟨ok96, F97⟩ := hq98
    have hw : PW G cy K ln Ls A hp95 H := hw
    rw [hQ]
    exact kz_i hx hb hr hlocks hS rfl hp95 hw ⟨ok96, (Fr.tr (Fr.rf) F97 (by decide))⟩ (Nat.le_of_ble_eq_true rfl) (Nat.le_of_ble_eq_true rfl) dX9_cutOne_19

set_option maxRecDepth 100000 in
set_option maxHeartbeats 4000000 in
theorem cX9_cut_0 (l : Launch) (G : va_G) (cy : Nat → ClassId) (ev : Ew) (K ln : Nat → Nat) (Ls : List Nat) (hW : SW K ln Ls) (sz : Nat) (hp0 : Nat → Nat → Value) (ok0 : Ok K hp0) (qa900 : Nat) (qa901 : Nat) (kd900 : K qa900 = 10) (kd901 : K qa901 = 9) : Met l yX9_cut (WS yX9_cut cX9_cut 5 none) { frames := 5, cells := 0, slots := 0, locals := 114 } (PB2 [.ref qa900, .ref qa901] sz G cy ev (va_pl Ls (cellOf cy K ln hp0))) (QBv (S := (Nat → Nat → Value)) (fun u : (Nat → Nat → Value) => Ok K u ∧ Fr [10004, 44000, 45000, 46000] K hp0 u) G (fun u => va_pl Ls (cellOf cy K ln u)) (va_A (va_pl Ls (cellOf cy K ln hp0)) sz)) 0 0 (va_A (va_pl Ls (cellOf cy K ln hp0)) sz) := by
  refine met_of2 (y := yX9_cut) (L := 5) (av := [.ref qa900, .ref qa901]) (Qc := fun A => QBv (S := (Nat → Nat → Value)) (fun u : (Nat → Nat → Value) => Ok K u ∧ Fr [10004, 44000, 45000, 46000] K hp0 u) G (fun u => va_pl Ls (cellOf cy K ln u)) A) (plainFor_of_name (by decide)) (Nat.le_of_ble_eq_true rfl) ?_
  intro p e s m below meth c hsz hx hb hr hml hown hT hlocks hin hK A hA hE hw hS ls hl
  have hw : PW G cy K ln Ls A hp0 s.heap := hw
  have hown : s.vm.findClass "LieClock$Tokens" = some m.cls := hown
  have hl : lv_has ls 5 [(0, .ref qa900), (1, .ref qa901)] := hl
  obtain ⟨Q, hQ⟩ : ∃ Q : State → Prop, Q = MQ below (QBv (S := (Nat → Nat → Value)) (fun u : (Nat → Nat → Value) => Ok K u ∧ Fr [10004, 44000, 45000, 46000] K hp0 u) G (fun u => va_pl Ls (cellOf cy K ln u)) A) ([.ref qa900, .ref qa901] : List Value).toArray s 0 0 A := ⟨_, rfl⟩
  rw [← hQ]
  refine lv_aload_n hx hb dX9_cut_0 rfl (lv_at hl 0 rfl) ?_
  refine lv_iconst (v := 0) hx hb dX9_cut_1 (by decide) ?_
  refine p_put (ci := 9) (v := .int 0) (ty := .int) (C := RX9) (T := TX9) (N := 5) hx hb hT iw_X9 tyX9 tyX9_ok nmX9 hown hK hw hS hW kd900 (by decide) rfl rfl 4 (by decide) (hT _ tb_359) (fun _ h9 => h9) rfl (by decide +kernel) rfl rfl dX9_cut_2 (fun hp1 eh2 H locs hw hS => ?_)
  have ok3 := wr_10004 bc_0 (by decide) (by decide) ok0 kd900 eh2
  refine lv_iconst (v := 0) hx hb dX9_cut_5 (by decide) ?_
  refine lv_istore_n (lv' := [(2, .int 0), (0, .ref qa900), (1, .ref qa901)]) hx hb dX9_cut_6 rfl hl (by decide) rfl (fun ls hl => ?_)
  refine lv_iconst (v := 1) hx hb dX9_cut_7 (by decide) ?_
  refine lv_istore_n (lv' := [(3, .int 1), (2, .int 0), (0, .ref qa900), (1, .ref qa901)]) hx hb dX9_cut_8 rfl hl (by decide) rfl (fun ls hl => ?_)
  refine lv_iconst (v := 0) hx hb dX9_cut_9 (by decide) ?_
  refine lv_istore (lv' := [(4, .int 0), (3, .int 1), (2, .int 0), (0, .ref qa900), (1, .ref qa901)]) hx hb dX9_cut_10 hl (by decide) rfl (fun ls hl => ?_)
  have jn405 : ∀ (hp402 : Nat → Nat → Value)  (H : Heap) (locs : List Loc) (ls : Array Slot), Ok K hp402 → Fr [10004, 44000, 45000, 46000] K hp1 hp402 → lv_has ls 5 [] → PW G cy K ln Ls A hp402 H → va_S A s.heap H locs → W p l e ({ frames := 5, cells := 0, slots := 0, locals := 114 } : Room) s m ([.ref qa900, .ref qa901] : List Value).toArray below meth c H locs 0 0 Q (F0 m 68 ls []) := by
    intro hp402 H locs ls ok404 F403 hl hw hS
    rw [hQ]
    exact kz_v hx hb hr hlocks hS hp402 hw ⟨ok404, (Fr.tr (Fr.put (cq := 10004) (Fr.rf) eh2 kd900 (cd_o (by decide)) (by decide)) F403 (by decide))⟩ (Nat.le_of_ble_eq_true rfl) (Nat.le_of_ble_eq_true rfl) dX9_cut_68
  have lp408 : ∀ (n406 : Nat) (hp325 : Nat → Nat → Value) (zi322 : Int32) (zi323 : Int32) (zi324 : Int32) (H : Heap) (locs : List Loc) (ls : Array Slot), 401 - zi324.toInt < (n406 : Int) → Ok K hp325 → Fr [10004, 44000, 45000, 46000] K hp1 hp325 → ((0 : Int) ≤ zi323.toInt ∧ zi323.toInt ≤ 1) → ((0 : Int) ≤ zi324.toInt ∧ zi324.toInt ≤ 401) → lv_has ls 5 [(0, .ref qa900), (1, .ref qa901), (2, .int zi322), (3, .int zi323), (4, .int zi324)] → PW G cy K ln Ls A hp325 H → va_S A s.heap H locs → W p l e ({ frames := 5, cells := 0, slots := 0, locals := 114 } : Room) s m ([.ref qa900, .ref qa901] : List Value).toArray below meth c H locs 0 0 Q (F0 m 12 ls []) := by
    intro n406
    induction n406 with
    | zero =>
      intro hp325 zi322 zi323 zi324 H locs ls hm409 ok327 F326 bd328 bd329 hl hw hS
      exact absurd hm409 (by have := bd329; omega)
    | succ n406 ih407 =>
      intro hp325 zi322 zi323 zi324 H locs ls hm409 ok327 F326 bd328 bd329 hl hw hS
      refine lv_iload hx hb dX9_cut_12 (lv_at hl 4 rfl) ?_
      refine lv_sipush (v := 400) hx hb dX9_cut_14 (by decide) ?_
      refine lv_icmp_gt (tgt := 68) hx hb dX9_cut_17 (by decide) (fun cn410 => ?_) (fun cn410 => ?_)
      · skip
        have bd411 : (401 : Int) ≤ zi324.toInt ∧ zi324.toInt ≤ 401 := r_lt_y cn410 bc_400 bd329 (by decide) (by decide)
        exact jn405 hp325 _ _ ls ok327 (Fr.tr (Fr.rf) F326 (by decide)) (lv_sub hl [] rfl) hw hS
      · skip
        have bd412 : (0 : Int) ≤ zi324.toInt ∧ zi324.toInt ≤ 400 := r_le_x (Int32.not_lt.mp cn410) bd329 bc_400 (by decide) (by decide)
        refine lv_iload_n hx hb dX9_cut_20 rfl (lv_at hl 3 rfl) ?_
        refine lv_if_eq (tgt := 68) hx hb dX9_cut_21 (by decide) (fun cn413 => ?_) (fun cn413 => ?_)
        · skip
          have bd414 : (0 : Int) ≤ zi323.toInt ∧ zi323.toInt ≤ 0 := r_eq_x cn413 bd328 bc_0 (by decide) (by decide)
          exact jn405 hp325 _ _ ls ok327 (Fr.tr (Fr.rf) F326 (by decide)) (lv_sub hl [] rfl) hw hS
        · skip
          have bd415 : (1 : Int) ≤ zi323.toInt ∧ zi323.toInt ≤ 1 := r_ne_lo cn413 bd328 (toi bc_0) (by decide) (by decide)
          refine lv_aload_n hx hb dX9_cut_24 rfl (lv_at hl 0 rfl) ?_
          refine lv_aload_n hx hb dX9_cut_25 rfl (lv_at hl 1 rfl) ?_
          refine lv_aload_n hx hb dX9_cut_26 rfl (lv_at hl 1 rfl) ?_
          refine lv_iload_n hx hb dX9_cut_27 rfl (lv_at hl 2 rfl) ?_
          refine kq_i hw hS hA (va_runS (As := [.ref qa901, .int zi322]) (rest := [.ref qa901, .ref qa900]) ⟨hx, hb, hml, hown, hT⟩ (cX9_skipBlanks_0 l G cy ev K ln Ls hW _ hp325 ok327 qa901 zi322 kd901) (va_cwS 2 hT (good_S tb_735 tb_733 tb_734 tb_110) rfl rfl rfl (by decide +kernel) ⟨Nat.le_of_ble_eq_true rfl, Nat.le_of_ble_eq_true rfl⟩) (PB2.preS hK hE hS hA hw) rfl rfl hl.1 rfl (lv_room (Nat.le_of_ble_eq_true rfl)) dX9_cut_28 ⟨Nat.le_of_ble_eq_true rfl, Nat.le_of_ble_eq_true rfl⟩) (fun zi420 hp416 H locs hq419 hw hS => ?_)
          obtain ⟨ok417, F418⟩ := hq419
          obtain rfl : hp325 = hp416 := (Fr.nil F418).symm
          have hw : PW G cy K ln Ls A hp325 H := hw
          refine kq_i hw hS hA (va_runV (As := [.ref qa901, .int zi420]) (rest := []) ⟨hx, hb, hml, hown, hT⟩ (cX9_cutOne_0 l G cy ev K ln Ls hW _ hp325 ok327 qa900 qa901 zi420 kd900 kd901) (cwV 2 hT (good_V tb_746 tb_743 tb_745 tb_0 tb_110) rfl rfl rfl (by decide +kernel) ⟨Nat.le_of_ble_eq_true rfl, Nat.le_of_ble_eq_true rfl⟩) (pool_preV (ci := 9) hK hE hS hA hw hW kd900 (by decide) rfl) rfl rfl hl.1 rfl (lv_room (Nat.le_of_ble_eq_true rfl)) dX9_cut_31 ⟨Nat.le_of_ble_eq_true rfl, Nat.le_of_ble_eq_true rfl⟩) (fun zi425 hp421 H locs hq424 hw hS => ?_)
          obtain ⟨ok422, F423⟩ := hq424
          have hw : PW G cy K ln Ls A hp421 H := hw
          refine lv_istore_n (lv' := [(2, .int zi425), (0, .ref qa900), (1, .ref qa901), (3, .int zi323), (4, .int zi324)]) hx hb dX9_cut_34 rfl hl (by decide) rfl (fun ls hl => ?_)
          refine lv_aload_n hx hb dX9_cut_35 rfl (lv_at hl 1 rfl) ?_
          obtain ⟨qa427, eq426, kd428⟩ := rd_10000 ok422 kd900
          refine p_get (ci := 9) (v := .ref qa427) (C := RX9) (T := TX9) (N := 5) hx hb hT iw_X9 hown hK hw hW kd900 (by decide) rfl rfl 0 (by decide) eq426 (hT _ tb_353) (fun _ h9 => h9) dX9_cut_36 ?_
          refine lv_iload hx hb dX9_cut_39 (lv_at hl 4 rfl) ?_
          obtain ⟨zi430, eq429⟩ := rd_44000 ok422 kd428 ((zi324 : Int32).toNatClampNeg)
          refine p_iald (v := zi430) hx hb hK hw hW kd428 (by decide) rfl (hW.len kd428 (n := 401) rfl (by decide)) (vp_b bd412 (by decide) (by decide)) eq429 dX9_cut_41 ?_
          have jn437 : ∀ (zi435 : Int32) (H : Heap) (locs : List Loc) (ls : Array Slot), ((0 : Int) ≤ zi435.toInt ∧ zi435.toInt ≤ 1) → lv_has ls 5 [(0, .ref qa900), (1, .ref qa901), (2, .int zi425), (4, .int zi324)] → PW G cy K ln Ls A hp421 H → va_S A s.heap H locs → W p l e ({ frames := 5, cells := 0, slots := 0, locals := 114 } : Room) s m ([.ref qa900, .ref qa901] : List Value).toArray below meth c H locs 0 0 Q (F0 m 61 ls [.int zi435]) := by
            intro zi435 H locs ls bd436 hl hw hS
            refine lv_istore_n (lv' := [(3, .int zi435), (0, .ref qa900), (1, .ref qa901), (2, .int zi425), (4, .int zi324)]) hx hb dX9_cut_61 rfl hl (by decide) rfl (fun ls hl => ?_)
            obtain ⟨zi438, ea439⟩ : ∃ z : Int32, z = zi324 + 1 := ⟨_, rfl⟩
            have bd440 : (1 : Int) ≤ zi438.toInt ∧ zi438.toInt ≤ 401 := b_iadd ea439 bd412 bc_1 (by decide) (by decide) (by decide) (by decide)
            have qe441 : zi438.toInt = (zi324 : Int32).toInt + (1 : Int32).toInt := e_iadd ea439 bd412 bc_1 (by decide) (by decide)
            have qe442 : zi438.toInt = zi324.toInt + 1 := by have ha : (1 : Int32).toInt = 1 := (by decide); rw [ha] at qe441; exact qe441
            refine lv_iinc (v := zi438) (lv' := [(4, .int zi438), (3, .int zi435), (0, .ref qa900), (1, .ref qa901), (2, .int zi425)]) hx hb dX9_cut_62 hl (k := 4) rfl ea439.symm (by decide) rfl (fun ls hl => ?_)
            refine lv_goto (tgt := 12) hx hb dX9_cut_65 (by decide) ?_
            exact ih407 hp421 zi425 zi435 zi438 _ _ ls (by have := hm409; have := qe442; omega) ok422 (Fr.tr (Fr.tr (Fr.rf) F326 (by decide)) F423 (by decide)) (b_wid2 bd436 (by decide) (by decide)) (b_wid2 bd440 (by decide) (by decide)) (lv_sub hl [2, 3, 4, 1, 0] rfl) hw hS
          refine lv_if_eq (tgt := 60) hx hb dX9_cut_42 (by decide) (fun cn431 => ?_) (fun cn431 => ?_)
          · skip
            have bd443 : (0 : Int) ≤ zi430.toInt ∧ zi430.toInt ≤ 0 := r_eq_x cn431 (b_all zi430) bc_0 (by decide) (by decide)
            refine lv_iconst (v := 0) hx hb dX9_cut_60 (by decide) ?_
            exact jn437 0 _ _ ls (b_wid2 bc_0 (by decide) (by decide)) (lv_sub hl [1, 2, 0, 4] rfl) hw hS
          · skip
            refine lv_aload_n hx hb dX9_cut_45 rfl (lv_at hl 1 rfl) ?_
            refine p_get (ci := 9) (v := .ref qa427) (C := RX9) (T := TX9) (N := 5) hx hb hT iw_X9 hown hK hw hW kd900 (by decide) rfl rfl 0 (by decide) eq426 (hT _ tb_353) (fun _ h9 => h9) dX9_cut_46 ?_
            refine lv_iload hx hb dX9_cut_49 (lv_at hl 4 rfl) ?_
            refine p_iald (v := zi430) hx hb hK hw hW kd428 (by decide) rfl (hW.len kd428 (n := 401) rfl (by decide)) (vp_b bd412 (by decide) (by decide)) eq429 dX9_cut_51 ?_
            refine lv_iconst (v := 1) hx hb dX9_cut_52 (by decide) ?_
            refine lv_icmp_eq (tgt := 60) hx hb dX9_cut_53 (by decide) (fun cn444 => ?_) (fun cn444 => ?_)
            · skip
              have bd445 : (1 : Int) ≤ zi430.toInt ∧ zi430.toInt ≤ 1 := r_eq_x cn444 (b_all zi430) bc_1 (by decide) (by decide)
              refine lv_iconst (v := 0) hx hb dX9_cut_60 (by decide) ?_
              exact jn437 0 _ _ ls (b_wid2 bc_0 (by decide) (by decide)) (lv_sub hl [1, 2, 0, 4] rfl) hw hS
            · skip
              refine lv_iconst (v := 1) hx hb dX9_cut_56 (by decide) ?_
              refine lv_goto (tgt := 61) hx hb dX9_cut_57 (by decide) ?_
              exact jn437 1 _ _ ls (b_wid2 bc_1 (by decide) (by decide)) (lv_sub hl [1, 2, 0, 4] rfl) hw hS
  exact lp408 _ hp1 0 1 0 _ _ ls (lp_in _) ok3 (Fr.rf) (b_wid2 bc_1 (by decide) (by decide)) (b_wid2 bc_0 (by decide) (by decide)) (lv_sub hl [3, 4, 2, 1, 0] rfl) hw hS

set_option maxRecDepth 100000 in
set_option maxHeartbeats 4000000 in
theorem cX9_placeAt_0 (l : Launch) (G : va_G) (cy : Nat → ClassId) (ev : Ew) (K ln : Nat → Nat) (Ls : List Nat) (hW : SW K ln Ls) (sz : Nat) (hp0 : Nat → Nat → Value) (ok0 : Ok K hp0) (qa900 : Nat) (zi901 : Int32) (kd900 : K qa900 = 10) : Met l yX9_placeAt (WS yX9_placeAt cX9_placeAt 2 (some .int)) { frames := 0, cells := 0, slots := 0, locals := 0 } (PB2 [.ref qa900, .int zi901] sz G cy ev (va_pl Ls (cellOf cy K ln hp0))) (QBi (S := (Nat → Nat → Value)) (fun (r : Int32) (u : (Nat → Nat → Value)) => Ok K u ∧ Fr [] K hp0 u) G (fun u => va_pl Ls (cellOf cy K ln u)) (va_A (va_pl Ls (cellOf cy K ln hp0)) sz)) 0 0 (va_A (va_pl Ls (cellOf cy K ln hp0)) sz) := by
  refine met_of2 (y := yX9_placeAt) (L := 2) (av := [.ref qa900, .int zi901]) (Qc := fun A => QBi (S := (Nat → Nat → Value)) (fun (r : Int32) (u : (Nat → Nat → Value)) => Ok K u ∧ Fr [] K hp0 u) G (fun u => va_pl Ls (cellOf cy K ln u)) A) (plainFor_of_name (by decide)) (Nat.le_of_ble_eq_true rfl) ?_
  intro p e s m below meth c hsz hx hb hr hml hown hT hlocks hin hK A hA hE hw hS ls hl
  have hw : PW G cy K ln Ls A hp0 s.heap := hw
  have hown : s.vm.findClass "LieClock$Tokens" = some m.cls := hown
  have hl : lv_has ls 2 [(0, .ref qa900), (1, .int zi901)] := hl
  obtain ⟨Q, hQ⟩ : ∃ Q : State → Prop, Q = MQ below (QBi (S := (Nat → Nat → Value)) (fun (r : Int32) (u : (Nat → Nat → Value)) => Ok K u ∧ Fr [] K hp0 u) G (fun u => va_pl Ls (cellOf cy K ln u)) A) ([.ref qa900, .int zi901] : List Value).toArray s 0 0 A := ⟨_, rfl⟩
  rw [← hQ]
  refine lv_iload_n hx hb dX9_placeAt_0 rfl (lv_at hl 1 rfl) ?_
  refine lv_if_lt (tgt := 21) hx hb dX9_placeAt_1 (by decide) (fun cn1 => ?_) (fun cn1 => ?_)
  · skip
    have bd2 : (-2147483648 : Int) ≤ zi901.toInt ∧ zi901.toInt ≤ -1 := r_lt_x cn1 (b_all zi901) bc_0 (by decide) (by decide)
    refine lv_iconst (v := 0) hx hb dX9_placeAt_21 (by decide) ?_
    rw [hQ]
    exact kz_i hx hb hr hlocks hS rfl hp0 hw ⟨ok0, (Fr.rf)⟩ (Nat.le_of_ble_eq_true rfl) (Nat.le_of_ble_eq_true rfl) dX9_placeAt_22
  · skip
    have bd3 : (0 : Int) ≤ zi901.toInt ∧ zi901.toInt ≤ 2147483647 := r_le_y (Int32.not_lt.mp cn1) bc_0 (b_all zi901) (by decide) (by decide)
    refine lv_iload_n hx hb dX9_placeAt_4 rfl (lv_at hl 1 rfl) ?_
    refine lv_aload_n hx hb dX9_placeAt_5 rfl (lv_at hl 0 rfl) ?_
    obtain ⟨zi5, eq4, bd6⟩ := rd_10004 ok0 kd900
    refine p_get (ci := 9) (v := .int zi5) (C := RX9) (T := TX9) (N := 5) hx hb hT iw_X9 hown hK hw hW kd900 (by decide) rfl rfl 4 (by decide) eq4 (hT _ tb_359) (fun _ h9 => h9) dX9_placeAt_6 ?_
    refine lv_icmp_ge (tgt := 21) hx hb dX9_placeAt_9 (by decide) (fun cn7 => ?_) (fun cn7 => ?_)
    · skip
      refine lv_iconst (v := 0) hx hb dX9_placeAt_21 (by decide) ?_
      rw [hQ]
      exact kz_i hx hb hr hlocks hS rfl hp0 hw ⟨ok0, (Fr.rf)⟩ (Nat.le_of_ble_eq_true rfl) (Nat.le_of_ble_eq_true rfl) dX9_placeAt_22
    · skip
      have bd8 : (0 : Int) ≤ zi901.toInt ∧ zi901.toInt ≤ 400 := r_lt_x (Int32.not_le.mp cn7) bd3 bd6 (by decide) (by decide)
      have bd9 : (1 : Int) ≤ zi5.toInt ∧ zi5.toInt ≤ 401 := r_lt_y (Int32.not_le.mp cn7) bd3 bd6 (by decide) (by decide)
      refine lv_aload_n hx hb dX9_placeAt_12 rfl (lv_at hl 0 rfl) ?_
      obtain ⟨qa11, eq10, kd12⟩ := rd_10001 ok0 kd900
      refine p_get (ci := 9) (v := .ref qa11) (C := RX9) (T := TX9) (N := 5) hx hb hT iw_X9 hown hK hw hW kd900 (by decide) rfl rfl 1 (by decide) eq10 (hT _ tb_355) (fun _ h9 => h9) dX9_placeAt_13 ?_
      refine lv_iload_n hx hb dX9_placeAt_16 rfl (lv_at hl 1 rfl) ?_
      obtain ⟨zi14, eq13⟩ := rd_45000 ok0 kd12 ((zi901 : Int32).toNatClampNeg)
      refine p_iald (v := zi14) hx hb hK hw hW kd12 (by decide) rfl (hW.len kd12 (n := 401) rfl (by decide)) (vp_b bd8 (by decide) (by decide)) eq13 dX9_placeAt_17 ?_
      refine lv_goto (tgt := 22) hx hb dX9_placeAt_18 (by decide) ?_
      rw [hQ]
      exact kz_i hx hb hr hlocks hS rfl hp0 hw ⟨ok0, (Fr.rf)⟩ (Nat.le_of_ble_eq_true rfl) (Nat.le_of_ble_eq_true rfl) dX9_placeAt_22
