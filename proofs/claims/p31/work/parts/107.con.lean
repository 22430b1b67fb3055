set_option maxRecDepth 100000 in
set_option maxHeartbeats 4000000 in
theorem cX5_all_4 (l : Launch) (G : va_G) (cy : Nat → ClassId) (ev : Ew) (K ln : Nat → Nat) (Ls : List Nat) (hW : SW K ln Ls) (sz : Nat) (hp0 : Nat → Nat → Value) (ok0 : Ok K hp0) (qa900 : Nat) (zi901 : Int32) (kd900 : K qa900 = 6) (bd901 : ((2 : Int) ≤ zi901.toInt ∧ zi901.toInt ≤ 2)) : Met l yX5_all (WS yX5_all cX5_all 5 (some .long)) { frames := 15, cells := 0, slots := 0, locals := 363 } (PB2 [.ref qa900, .int zi901] sz G cy ev (va_pl Ls (cellOf cy K ln hp0))) (QBl (S := (Nat → Nat → Value)) (fun (r : Int64) (u : (Nat → Nat → Value)) => Ok K u ∧ Fr [6002, 6003, 6004, 6005, 6006] K hp0 u) G (fun u => va_pl Ls (cellOf cy K ln u)) (va_A (va_pl Ls (cellOf cy K ln hp0)) sz)) 0 0 (va_A (va_pl Ls (cellOf cy K ln hp0)) sz) := by
  refine met_of2 (y := yX5_all) (L := 5) (av := [.ref qa900, .int zi901]) (Qc := fun A => QBl (S := (Nat → Nat → Value)) (fun (r : Int64) (u : (Nat → Nat → Value)) => Ok K u ∧ Fr [6002, 6003, 6004, 6005, 6006] K hp0 u) G (fun u => va_pl Ls (cellOf cy K ln u)) A) (plainFor_of_name (by decide)) (Nat.le_of_ble_eq_true rfl) ?_
  intro p e s m below meth c hsz hx hb hr hml hown hT hlocks hin hK A hA hE hw hS ls hl
  have hw : PW G cy K ln Ls A hp0 s.heap := hw
  have hown : s.vm.findClass "LieClock$Parser" = some m.cls := hown
  have hl : lv_has ls 5 [(0, .ref qa900), (1, .int zi901)] := hl
  obtain ⟨Q, hQ⟩ : ∃ Q : State → Prop, Q = MQ below (QBl (S := (Nat → Nat → Value)) (fun (r : Int64) (u : (Nat → Nat → Value)) => Ok K u ∧ Fr [6002, 6003, 6004, 6005, 6006] K hp0 u) G (fun u => va_pl Ls (cellOf cy K ln u)) A) ([.ref qa900, .int zi901] : List Value).toArray s 0 0 A := ⟨_, rfl⟩
  rw [← hQ]
  refine lv_aload_n hx hb dX5_all_0 rfl (lv_at hl 0 rfl) ?_
  refine lv_iload_n hx hb dX5_all_1 rfl (lv_at hl 1 rfl) ?_
  refine kq_l hw hS hA (va_runV (As := [.int zi901]) (rest := []) ⟨hx, hb, hml, hown, hT⟩ (cX5_literal_4 l G cy ev K ln Ls hW _ hp0 ok0 qa900 zi901 kd900 (b_wid2 bd901 (by decide) (by decide))) (cwV 1 hT (good_V tb_918 tb_915 tb_917 tb_17 tb_109) rfl rfl rfl (by decide +kernel) ⟨Nat.le_of_ble_eq_true rfl, Nat.le_of_ble_eq_true rfl⟩) (pool_preV (ci := 5) hK hE hS hA hw hW kd900 (by decide) rfl) rfl rfl hl.1 rfl (lv_room (Nat.le_of_ble_eq_true rfl)) dX5_all_2 ⟨Nat.le_of_ble_eq_true rfl, Nat.le_of_ble_eq_true rfl⟩) (fun wl5 hp1 H locs hq4 hw hS => ?_)
  obtain ⟨ok2, F3⟩ := hq4
  have hw : PW G cy K ln Ls A hp1 H := hw
  refine lv_lstore_n (lv' := [(2, .long wl5), (0, .ref qa900), (1, .int zi901)]) hx hb dX5_all_5 rfl hl (by decide) rfl (fun ls hl => ?_)
  refine lv_iconst (v := 0) hx hb dX5_all_6 (by decide) ?_
  refine lv_istore (lv' := [(4, .int 0), (2, .long wl5), (0, .ref qa900), (1, .int zi901)]) hx hb dX5_all_7 hl (by decide) rfl (fun ls hl => ?_)
  have jn325 : ∀ (hp322 : Nat → Nat → Value) (wl321 : Int64) (H : Heap) (locs : List Loc) (ls : Array Slot), Ok K hp322 → Fr [6002, 6003, 6004, 6005, 6006] K hp1 hp322 → lv_has ls 5 [(2, .long wl321)] → PW G cy K ln Ls A hp322 H → va_S A s.heap H locs → W p l e ({ frames := 15, cells := 0, slots := 0, locals := 363 } : Room) s m ([.ref qa900, .int zi901] : List Value).toArray below meth c H locs 0 0 Q (F0 m 40 ls []) := by
    intro hp322 wl321 H locs ls ok324 F323 hl hw hS
    refine lv_lload_n hx hb dX5_all_40 rfl (lv_at hl 0 rfl) ?_
    rw [hQ]
    exact kz_l hx hb hr hlocks hS hp322 hw ⟨ok324, (Fr.tr (Fr.tr (Fr.rf) F3 (by decide)) F323 (by decide))⟩ (Nat.le_of_ble_eq_true rfl) (Nat.le_of_ble_eq_true rfl) dX5_all_41
  have lp328 : ∀ (n326 : Nat) (hp259 : Nat → Nat → Value) (wl257 : Int64) (zi258 : Int32) (H : Heap) (locs : List Loc) (ls : Array Slot), 401 - zi258.toInt < (n326 : Int) → Ok K hp259 → Fr [6002, 6003, 6004, 6005, 6006] K hp1 hp259 → ((0 : Int) ≤ zi258.toInt ∧ zi258.toInt ≤ 401) → lv_has ls 5 [(0, .ref qa900), (1, .int zi901), (2, .long wl257), (4, .int zi258)] → PW G cy K ln Ls A hp259 H → va_S A s.heap H locs → W p l e ({ frames := 15, cells := 0, slots := 0, locals := 363 } : Room) s m ([.ref qa900, .int zi901] : List Value).toArray below meth c H locs 0 0 Q (F0 m 9 ls []) := by
    intro n326
    induction n326 with
    | zero =>
      intro hp259 wl257 zi258 H locs ls hm329 ok261 F260 bd262 hl hw hS
      exact absurd hm329 (by have := bd262; omega)
    | succ n326 ih327 =>
      intro hp259 wl257 zi258 H locs ls hm329 ok261 F260 bd262 hl hw hS
      refine lv_iload hx hb dX5_all_9 (lv_at hl 3 rfl) ?_
      refine lv_sipush (v := 400) hx hb dX5_all_11 (by decide) ?_
      refine lv_icmp_gt (tgt := 40) hx hb dX5_all_14 (by decide) (fun cn330 => ?_) (fun cn330 => ?_)
      · skip
        have bd331 : (401 : Int) ≤ zi258.toInt ∧ zi258.toInt ≤ 401 := r_lt_y cn330 bc_400 bd262 (by decide) (by decide)
        exact jn325 hp259 wl257 _ _ ls ok261 (Fr.tr (Fr.rf) F260 (by decide)) (lv_sub hl [2] rfl) hw hS
      · skip
        have bd332 : (0 : Int) ≤ zi258.toInt ∧ zi258.toInt ≤ 400 := r_le_x (Int32.not_lt.mp cn330) bd262 bc_400 (by decide) (by decide)
        refine lv_aload_n hx hb dX5_all_17 rfl (lv_at hl 0 rfl) ?_
        refine lv_bipush (v := 112) hx hb dX5_all_18 (by decide) ?_
        refine kq_i hw hS hA (va_runV (As := [.int 112]) (rest := []) ⟨hx, hb, hml, hown, hT⟩ (cX5_accept_0 l G cy ev K ln Ls hW _ hp259 ok261 qa900 112 kd900) (cwV 1 hT (good_V tb_854 tb_851 tb_853 tb_8 tb_109) rfl rfl rfl (by decide +kernel) ⟨Nat.le_of_ble_eq_true rfl, Nat.le_of_ble_eq_true rfl⟩) (pool_preV (ci := 5) hK hE hS hA hw hW kd900 (by decide) rfl) rfl rfl hl.1 rfl (lv_room (Nat.le_of_ble_eq_true rfl)) dX5_all_20 ⟨Nat.le_of_ble_eq_true rfl, Nat.le_of_ble_eq_true rfl⟩) (fun zi337 hp333 H locs hq336 hw hS => ?_)
        obtain ⟨ok334, F335, bd338, hc339, hc340⟩ := hq336
        have hw : PW G cy K ln Ls A hp333 H := hw
        rcases b01 bd338 with cn341 | cn341
        · skip
          subst cn341
          refine lv_if_eq (tgt := 40) hx hb dX5_all_23 (by decide) (fun _ => ?_) (fun c => absurd (d_eq bc_0 bc_0) c)
          exact jn325 hp333 wl257 _ _ ls ok334 (Fr.tr (Fr.tr (Fr.rf) F260 (by decide)) F335 (by decide)) (lv_sub hl [2] rfl) hw hS
        · skip
          subst cn341
          obtain ⟨zi342, eq343, bd344⟩ := hc339 rfl
          obtain ⟨zi345, eq346, bd347⟩ := hc340 rfl
          refine lv_if_eq (tgt := 40) hx hb dX5_all_23 (by decide) (fun c => absurd c (d_ne bc_1 bc_0 (by decide))) (fun _ => ?_)
          refine lv_lload_n hx hb dX5_all_26 rfl (lv_at hl 2 rfl) ?_
          refine lv_aload_n hx hb dX5_all_27 rfl (lv_at hl 0 rfl) ?_
          refine lv_iload_n hx hb dX5_all_28 rfl (lv_at hl 1 rfl) ?_
          refine kq_l hw hS hA (va_runV (As := [.int zi901]) (rest := [.long wl257]) ⟨hx, hb, hml, hown, hT⟩ (cX5_literal_4 l G cy ev K ln Ls hW _ hp333 ok334 qa900 zi901 kd900 (b_wid2 bd901 (by decide) (by decide))) (cwV 1 hT (good_V tb_918 tb_915 tb_917 tb_17 tb_109) rfl rfl rfl (by decide +kernel) ⟨Nat.le_of_ble_eq_true rfl, Nat.le_of_ble_eq_true rfl⟩) (pool_preV (ci := 5) hK hE hS hA hw hW kd900 (by decide) rfl) rfl rfl hl.1 rfl (lv_room (Nat.le_of_ble_eq_true rfl)) dX5_all_29 ⟨Nat.le_of_ble_eq_true rfl, Nat.le_of_ble_eq_true rfl⟩) (fun wl352 hp348 H locs hq351 hw hS => ?_)
          obtain ⟨ok349, F350⟩ := hq351
          have hw : PW G cy K ln Ls A hp348 H := hw
          refine lv_land hx hb dX5_all_32 (lv_topl (fun wl353 _ => ?_))
          refine lv_lstore_n (lv' := [(2, .long wl353), (0, .ref qa900), (1, .int zi901), (4, .int zi258)]) hx hb dX5_all_33 rfl hl (by decide) rfl (fun ls hl => ?_)
          obtain ⟨zi354, ea355⟩ : ∃ z : Int32, z = zi258 + 1 := ⟨_, rfl⟩
          have bd356 : (1 : Int) ≤ zi354.toInt ∧ zi354.toInt ≤ 401 := b_iadd ea355 bd332 bc_1 (by decide) (by decide) (by decide) (by decide)
          have qe357 : zi354.toInt = (zi258 : Int32).toInt + (1 : Int32).toInt := e_iadd ea355 bd332 bc_1 (by decide) (by decide)
          have qe358 : zi354.toInt = zi258.toInt + 1 := by have ha : (1 : Int32).toInt = 1 := (by decide); rw [ha] at qe357; exact qe357
          refine lv_iinc (v := zi354) (lv' := [(4, .int zi354), (2, .long wl353), (0, .ref qa900), (1, .int zi901)]) hx hb dX5_all_34 hl (k := 3) rfl ea355.symm (by decide) rfl (fun ls hl => ?_)
          refine lv_goto (tgt := 9) hx hb dX5_all_37 (by decide) ?_
          exact ih327 hp348 wl353 zi354 _ _ ls (by have := hm329; have := qe358; omega) ok349 (Fr.tr (Fr.tr (Fr.tr (Fr.rf) F260 (by decide)) F335 (by decide)) F350 (by decide)) (b_wid2 bd356 (by decide) (by decide)) (lv_sub hl [2, 3, 1, 0] rfl) hw hS
  exact lp328 _ hp1 wl5 0 _ _ ls (lp_in _) ok2 (Fr.rf) (b_wid2 bc_0 (by decide) (by decide)) (lv_sub hl [2, 3, 1, 0] rfl) hw hS

set_option maxRecDepth 100000 in
set_option maxHeartbeats 4000000 in
theorem cX5_cond_4 (l : Launch) (G : va_G) (cy : Nat → ClassId) (ev : Ew) (K ln : Nat → Nat) (Ls : List Nat) (hW : SW K ln Ls) (sz : Nat) (hp0 : Nat → Nat → Value) (ok0 : Ok K hp0) (qa900 : Nat) (zi901 : Int32) (kd900 : K qa900 = 6) (bd901 : ((2 : Int) ≤ zi901.toInt ∧ zi901.toInt ≤ 2)) : Met l yX5_cond (WS yX5_cond cX5_cond 5 (some .long)) { frames := 16, cells := 0, slots := 0, locals := 387 } (PB2 [.ref qa900, .int zi901] sz G cy ev (va_pl Ls (cellOf cy K ln hp0))) (QBl (S := (Nat → Nat → Value)) (fun (r : Int64) (u : (Nat → Nat → Value)) => Ok K u ∧ Fr [6002, 6003, 6004, 6005, 6006] K hp0 u) G (fun u => va_pl Ls (cellOf cy K ln u)) (va_A (va_pl Ls (cellOf cy K ln hp0)) sz)) 0 0 (va_A (va_pl Ls (cellOf cy K ln hp0)) sz) := by
  refine met_of2 (y := yX5_cond) (L := 5) (av := [.ref qa900, .int zi901]) (Qc := fun A => QBl (S := (Nat → Nat → Value)) (fun (r : Int64) (u : (Nat → Nat → Value)) => Ok K u ∧ Fr [6002, 6003, 6004, 6005, 6006] K hp0 u) G (fun u => va_pl Ls (cellOf cy K ln u)) A) (plainFor_of_name (by decide)) (Nat.le_of_ble_eq_true rfl) ?_
  intro p e s m below meth c hsz hx hb hr hml hown hT hlocks hin hK A hA hE hw hS ls hl
  have hw : PW G cy K ln Ls A hp0 s.heap := hw
  have hown : s.vm.findClass "LieClock$Parser" = some m.cls := hown
  have hl : lv_has ls 5 [(0, .ref qa900), (1, .int zi901)] := hl
  obtain ⟨Q, hQ⟩ : ∃ Q : State → Prop, Q = MQ below (QBl (S := (Nat → Nat → Value)) (fun (r : Int64) (u : (Nat → Nat → Value)) => Ok K u ∧ Fr [6002, 6003, 6004, 6005, 6006] K hp0 u) G (fun u => va_pl Ls (cellOf cy K ln u)) A) ([.ref qa900, .int zi901] : List Value).toArray s 0 0 A := ⟨_, rfl⟩
  rw [← hQ]
  refine lv_aload_n hx hb dX5_cond_0 rfl (lv_at hl 0 rfl) ?_
  refine lv_iload_n hx hb dX5_cond_1 rfl (lv_at hl 1 rfl) ?_
  refine kq_l hw hS hA (va_runV (As := [.int zi901]) (rest := []) ⟨hx, hb, hml, hown, hT⟩ (cX5_all_4 l G cy ev K ln Ls hW _ hp0 ok0 qa900 zi901 kd900 (b_wid2 bd901 (by decide) (by decide))) (cwV 1 hT (good_V tb_914 tb_911 tb_913 tb_16 tb_109) rfl rfl rfl (by decide +kernel) ⟨Nat.le_of_ble_eq_true rfl, Nat.le_of_ble_eq_true rfl⟩) (pool_preV (ci := 5) hK hE hS hA hw hW kd900 (by decide) rfl) rfl rfl hl.1 rfl (lv_room (Nat.le_of_ble_eq_true rfl)) dX5_cond_2 ⟨Nat.le_of_ble_eq_true rfl, Nat.le_of_ble_eq_true rfl⟩) (fun wl5 hp1 H locs hq4 hw hS => ?_)
  obtain ⟨ok2, F3⟩ := hq4
  have hw : PW G cy K ln Ls A hp1 H := hw
  refine lv_lstore_n (lv' := [(2, .long wl5), (0, .ref qa900), (1, .int zi901)]) hx hb dX5_cond_5 rfl hl (by decide) rfl (fun ls hl => ?_)
  refine lv_iconst (v := 0) hx hb dX5_cond_6 (by decide) ?_
  refine lv_istore (lv' := [(4, .int 0), (2, .long wl5), (0, .ref qa900), (1, .int zi901)]) hx hb dX5_cond_7 hl (by decide) rfl (fun ls hl => ?_)
  have jn325 : ∀ (hp322 : Nat → Nat → Value) (wl321 : Int64) (H : Heap) (locs : List Loc) (ls : Array Slot), Ok K hp322 → Fr [6002, 6003, 6004, 6005, 6006] K hp1 hp322 → lv_has ls 5 [(2, .long wl321)] → PW G cy K ln Ls A hp322 H → va_S A s.heap H locs → W p l e ({ frames := 16, cells := 0, slots := 0, locals := 387 } : Room) s m ([.ref qa900, .int zi901] : List Value).toArray below meth c H locs 0 0 Q (F0 m 40 ls []) := by
    intro hp322 wl321 H locs ls ok324 F323 hl hw hS
    refine lv_lload_n hx hb dX5_cond_40 rfl (lv_at hl 0 rfl) ?_
    rw [hQ]
    exact kz_l hx hb hr hlocks hS hp322 hw ⟨ok324, (Fr.tr (Fr.tr (Fr.rf) F3 (by decide)) F323 (by decide))⟩ (Nat.le_of_ble_eq_true rfl) (Nat.le_of_ble_eq_true rfl) dX5_cond_41
  have lp328 : ∀ (n326 : Nat) (hp259 : Nat → Nat → Value) (wl257 : Int64) (zi258 : Int32) (H : Heap) (locs : List Loc) (ls : Array Slot), 401 - zi258.toInt < (n326 : Int) → Ok K hp259 → Fr [6002, 6003, 6004, 6005, 6006] K hp1 hp259 → ((0 : Int) ≤ zi258.toInt ∧ zi258.toInt ≤ 401) → lv_has ls 5 [(0, .ref qa900), (1, .int zi901), (2, .long wl257), (4, .int zi258)] → PW G cy K ln Ls A hp259 H → va_S A s.heap H locs → W p l e ({ frames := 16, cells := 0, slots := 0, locals := 387 } : Room) s m ([.ref qa900, .int zi901] : List Value).toArray below meth c H locs 0 0 Q (F0 m 9 ls []) := by
    intro n326
    induction n326 with
    | zero =>
      intro hp259 wl257 zi258 H locs ls hm329 ok261 F260 bd262 hl hw hS
      exact absurd hm329 (by have := bd262; omega)
    | succ n326 ih327 =>
      intro hp259 wl257 zi258 H locs ls hm329 ok261 F260 bd262 hl hw hS
      refine lv_iload hx hb dX5_cond_9 (lv_at hl 3 rfl) ?_
      refine lv_sipush (v := 400) hx hb dX5_cond_11 (by decide) ?_
      refine lv_icmp_gt (tgt := 40) hx hb dX5_cond_14 (by decide) (fun cn330 => ?_) (fun cn330 => ?_)
      · skip
        have bd331 : (401 : Int) ≤ zi258.toInt ∧ zi258.toInt ≤ 401 := r_lt_y cn330 bc_400 bd262 (by decide) (by decide)
        exact jn325 hp259 wl257 _ _ ls ok261 (Fr.tr (Fr.rf) F260 (by decide)) (lv_sub hl [2] rfl) hw hS
      · skip
        have bd332 : (0 : Int) ≤ zi258.toInt ∧ zi258.toInt ≤ 400 := r_le_x (Int32.not_lt.mp cn330) bd262 bc_400 (by decide) (by decide)
        refine lv_aload_n hx hb dX5_cond_17 rfl (lv_at hl 0 rfl) ?_
        refine lv_bipush (v := 111) hx hb dX5_cond_18 (by decide) ?_
        refine kq_i hw hS hA (va_runV (As := [.int 111]) (rest := []) ⟨hx, hb, hml, hown, hT⟩ (cX5_accept_0 l G cy ev K ln Ls hW _ hp259 ok261 qa900 111 kd900) (cwV 1 hT (good_V tb_854 tb_851 tb_853 tb_8 tb_109) rfl rfl rfl (by decide +kernel) ⟨Nat.le_of_ble_eq_true rfl, Nat.le_of_ble_eq_true rfl⟩) (pool_preV (ci := 5) hK hE hS hA hw hW kd900 (by decide) rfl) rfl rfl hl.1 rfl (lv_room (Nat.le_of_ble_eq_true rfl)) dX5_cond_20 ⟨Nat.le_of_ble_eq_true rfl, Nat.le_of_ble_eq_true rfl⟩) (fun zi337 hp333 H locs hq336 hw hS => ?_)
        obtain ⟨ok334, F335, bd338, hc339, hc340⟩ := hq336
        have hw : PW G cy K ln Ls A hp333 H := hw
        rcases b01 bd338 with cn341 | cn341
        · skip
          subst cn341
          refine lv_if_eq (tgt := 40) hx hb dX5_cond_23 (by decide) (fun _ => ?_) (fun c => absurd (d_eq bc_0 bc_0) c)
          exact jn325 hp333 wl257 _ _ ls ok334 (Fr.tr (Fr.tr (Fr.rf) F260 (by decide)) F335 (by decide)) (lv_sub hl [2] rfl) hw hS
        · skip
          subst cn341
          obtain ⟨zi342, eq343, bd344⟩ := hc339 rfl
          obtain ⟨zi345, eq346, bd347⟩ := hc340 rfl
          refine lv_if_eq (tgt := 40) hx hb dX5_cond_23 (by decide) (fun c => absurd c (d_ne bc_1 bc_0 (by decide))) (fun _ => ?_)
          refine lv_lload_n hx hb dX5_cond_26 rfl (lv_at hl 2 rfl) ?_
          refine lv_aload_n hx hb dX5_cond_27 rfl (lv_at hl 0 rfl) ?_
          refine lv_iload_n hx hb dX5_cond_28 rfl (lv_at hl 1 rfl) ?_
          refine kq_l hw hS hA (va_runV (As := [.int zi901]) (rest := [.long wl257]) ⟨hx, hb, hml, hown, hT⟩ (cX5_all_4 l G cy ev K ln Ls hW _ hp333 ok334 qa900 zi901 kd900 (b_wid2 bd901 (by decide) (by decide))) (cwV 1 hT (good_V tb_914 tb_911 tb_913 tb_16 tb_109) rfl rfl rfl (by decide +kernel) ⟨Nat.le_of_ble_eq_true rfl, Nat.le_of_ble_eq_true rfl⟩) (pool_preV (ci := 5) hK hE hS hA hw hW kd900 (by decide) rfl) rfl rfl hl.1 rfl (lv_room (Nat.le_of_ble_eq_true rfl)) dX5_cond_29 ⟨Nat.le_of_ble_eq_true rfl, Nat.le_of_ble_eq_true rfl⟩) (fun wl352 hp348 H locs hq351 hw hS => ?_)
          obtain ⟨ok349, F350⟩ := hq351
          have hw : PW G cy K ln Ls A hp348 H := hw
          refine lv_lor hx hb dX5_cond_32 (lv_topl (fun wl353 _ => ?_))
          refine lv_lstore_n (lv' := [(2, .long wl353), (0, .ref qa900), (1, .int zi901), (4, .int zi258)]) hx hb dX5_cond_33 rfl hl (by decide) rfl (fun ls hl => ?_)
          obtain ⟨zi354, ea355⟩ : ∃ z : Int32, z = zi258 + 1 := ⟨_, rfl⟩
          have bd356 : (1 : Int) ≤ zi354.toInt ∧ zi354.toInt ≤ 401 := b_iadd ea355 bd332 bc_1 (by decide) (by decide) (by decide) (by decide)
          have qe357 : zi354.toInt = (zi258 : Int32).toInt + (1 : Int32).toInt := e_iadd ea355 bd332 bc_1 (by decide) (by decide)
          have qe358 : zi354.toInt = zi258.toInt + 1 := by have ha : (1 : Int32).toInt = 1 := (by decide); rw [ha] at qe357; exact qe357
          refine lv_iinc (v := zi354) (lv' := [(4, .int zi354), (2, .long wl353), (0, .ref qa900), (1, .int zi901)]) hx hb dX5_cond_34 hl (k := 3) rfl ea355.symm (by decide) rfl (fun ls hl => ?_)
          refine lv_goto (tgt := 9) hx hb dX5_cond_37 (by decide) ?_
          exact ih327 hp348 wl353 zi354 _ _ ls (by have := hm329; have := qe358; omega) ok349 (Fr.tr (Fr.tr (Fr.tr (Fr.rf) F260 (by decide)) F335 (by decide)) F350 (by decide)) (b_wid2 bd356 (by decide) (by decide)) (lv_sub hl [2, 3, 1, 0] rfl) hw hS
  exact lp328 _ hp1 wl5 0 _ _ ls (lp_in _) ok2 (Fr.rf) (b_wid2 bc_0 (by decide) (by decide)) (lv_sub hl [2, 3, 1, 0] rfl) hw hS

set_option maxRecDepth 100000 in
set_option maxHeartbeats 4000000 in
theorem cX5_literal_5 (l : Launch) (G : va_G) (cy : Nat → ClassId) (ev : Ew) (K ln : Nat → Nat) (Ls : List Nat) (hW : SW K ln Ls) (sz : Nat) (hp0 : Nat → Nat → Value) (ok0 : Ok K hp0) (qa900 : Nat) (zi901 : Int32) (kd900 : K qa900 = 6) (bd901 : ((1 : Int) ≤ zi901.toInt ∧ zi901.toInt ≤ 1)) : Met l yX5_literal (WS yX5_literal cX5_literal 6 (some .long)) { frames := 17, cells := 0, slots := 0, locals := 411 } (PB2 [.ref qa900, .int zi901] sz G cy ev (va_pl Ls (cellOf cy K ln hp0))) (QBl (S := (Nat → Nat → Value)) (fun (r : Int64) (u : (Nat → Nat → Value)) => Ok K u ∧ Fr [6002, 6003, 6004, 6005, 6006] K hp0 u) G (fun u => va_pl Ls (cellOf cy K ln u)) (va_A (va_pl Ls (cellOf cy K ln hp0)) sz)) 0 0 (va_A (va_pl Ls (cellOf cy K ln hp0)) sz) := by
  refine met_of2 (y := yX5_literal) (L := 6) (av := [.ref qa900, .int zi901]) (Qc := fun A => QBl (S := (Nat → Nat → Value)) (fun (r : Int64) (u : (Nat → Nat → Value)) => Ok K u ∧ Fr [6002, 6003, 6004, 6005, 6006] K hp0 u) G (fun u => va_pl Ls (cellOf cy K ln u)) A) (plainFor_of_name (by decide)) (Nat.le_of_ble_eq_true rfl) ?_
  intro p e s m below meth c hsz hx hb hr hml hown hT hlocks hin hK A hA hE hw hS ls hl
  have hw : PW G cy K ln Ls A hp0 s.heap := hw
  have hown : s.vm.findClass "LieClock$Parser" = some m.cls := hown
  have hl : lv_has ls 6 [(0, .ref qa900), (1, .int zi901)] := hl
  obtain ⟨Q, hQ⟩ : ∃ Q : State → Prop, Q = MQ below (QBl (S := (Nat → Nat → Value)) (fun (r : Int64) (u : (Nat → Nat → Value)) => Ok K u ∧ Fr [6002, 6003, 6004, 6005, 6006] K hp0 u) G (fun u => va_pl Ls (cellOf cy K ln u)) A) ([.ref qa900, .int zi901] : List Value).toArray s 0 0 A := ⟨_, rfl⟩
  rw [← hQ]
  refine lv_iconst (v := 0) hx hb dX5_literal_0 (by decide) ?_
  refine lv_istore_n (lv' := [(2, .int 0), (0, .ref qa900), (1, .int zi901)]) hx hb dX5_literal_1 rfl hl (by decide) rfl (fun ls hl => ?_)
  refine lv_iconst (v := 0) hx hb dX5_literal_2 (by decide) ?_
  refine lv_istore_n (lv' := [(3, .int 0), (2, .int 0), (0, .ref qa900), (1, .int zi901)]) hx hb dX5_literal_3 rfl hl (by decide) rfl (fun ls hl => ?_)
  have jn341 : ∀ (hp337 : Nat → Nat → Value) (zi336 : Int32) (H : Heap) (locs : List Loc) (ls : Array Slot), Ok K hp337 → Fr [6002, 6003, 6004] K hp0 hp337 → ((0 : Int) ≤ zi336.toInt ∧ zi336.toInt ≤ 1) → lv_has ls 6 [(0, .ref qa900), (1, .int zi901), (2, .int zi336)] → PW G cy K ln Ls A hp337 H → va_S A s.heap H locs → W p l e ({ frames := 17, cells := 0, slots := 0, locals := 411 } : Room) s m ([.ref qa900, .int zi901] : List Value).toArray below meth c H locs 0 0 Q (F0 m 36 ls []) := by
    intro hp337 zi336 H locs ls ok339 F338 bd340 hl hw hS
    refine lv_lconst (v := 0) hx hb dX5_literal_36 (by decide) ?_
    refine lv_lstore_n (lv' := [(3, .long 0), (0, .ref qa900), (1, .int zi901), (2, .int zi336)]) hx hb dX5_literal_37 rfl hl (by decide) rfl (fun ls hl => ?_)
    refine lv_aload_n hx hb dX5_literal_38 rfl (lv_at hl 1 rfl) ?_
    obtain ⟨zi343, eq342⟩ := rd_6003 ok339 kd900
    refine p_get (ci := 5) (v := .int zi343) (C := RX5) (T := TX5) (N := 7) hx hb hT iw_X5 hown hK hw hW kd900 (by decide) rfl rfl 3 (by decide) eq342 (hT _ tb_374) (fun _ h9 => h9) dX5_literal_39 ?_
    refine lv_bipush (v := 40) hx hb dX5_literal_42 (by decide) ?_
    have jn424 : ∀ (hp421 : Nat → Nat → Value) (wl420 : Int64) (H : Heap) (locs : List Loc) (ls : Array Slot), Ok K hp421 → Fr [6002, 6003, 6004, 6005, 6006] K hp337 hp421 → lv_has ls 6 [(2, .int zi336), (3, .long wl420)] → PW G cy K ln Ls A hp421 H → va_S A s.heap H locs → W p l e ({ frames := 17, cells := 0, slots := 0, locals := 411 } : Room) s m ([.ref qa900, .int zi901] : List Value).toArray below meth c H locs 0 0 Q (F0 m 113 ls []) := by
      intro hp421 wl420 H locs ls ok423 F422 hl hw hS
      refine lv_iload_n hx hb dX5_literal_113 rfl (lv_at hl 0 rfl) ?_
      refine lv_if_eq (tgt := 125) hx hb dX5_literal_114 (by decide) (fun cn425 => ?_) (fun cn425 => ?_)
      · skip
        have bd426 : (0 : Int) ≤ zi336.toInt ∧ zi336.toInt ≤ 0 := r_eq_x cn425 bd340 bc_0 (by decide) (by decide)
        refine lv_lload_n hx hb dX5_literal_125 rfl (lv_at hl 1 rfl) ?_
        rw [hQ]
        exact kz_l hx hb hr hlocks hS hp421 hw ⟨ok423, (Fr.tr (Fr.tr (Fr.rf) F338 (by decide)) F422 (by decide))⟩ (Nat.le_of_ble_eq_true rfl) (Nat.le_of_ble_eq_true rfl) dX5_literal_126
      · skip
        have bd427 : (1 : Int) ≤ zi336.toInt ∧ zi336.toInt ≤ 1 := r_ne_lo cn425 bd340 (toi bc_0) (by decide) (by decide)
        refine lv_lload_n hx hb dX5_literal_117 rfl (lv_at hl 1 rfl) ?_
        refine lv_ldc2 (v := (-1)) hx hb hown (hT _ tb_925) dX5_literal_118 ?_
        refine lv_lxor hx hb dX5_literal_121 (lv_topl (fun wl428 _ => ?_))
        refine lv_goto (tgt := 126) hx hb dX5_literal_122 (by decide) ?_
        rw [hQ]
        exact kz_l hx hb hr hlocks hS hp421 hw ⟨ok423, (Fr.tr (Fr.tr (Fr.rf) F338 (by decide)) F422 (by decide))⟩ (Nat.le_of_ble_eq_true rfl) (Nat.le_of_ble_eq_true rfl) dX5_literal_126
    refine lv_icmp_ne (tgt := 72) hx hb dX5_literal_44 (by decide) (fun cn344 => ?_) (fun cn344 => ?_)
    · skip
      refine lv_aload_n hx hb dX5_literal_72 rfl (lv_at hl 1 rfl) ?_
      obtain ⟨qa430, eq429, kd431⟩ := rd_6001 ok339 kd900
      refine p_get (ci := 5) (v := .ref qa430) (C := RX5) (T := TX5) (N := 7) hx hb hT iw_X5 hown hK hw hW kd900 (by decide) rfl rfl 1 (by decide) eq429 (hT _ tb_372) (fun _ h9 => h9) dX5_literal_73 ?_
      refine lv_aload_n hx hb dX5_literal_76 rfl (lv_at hl 1 rfl) ?_
      refine lv_iconst (v := 2) hx hb dX5_literal_77 (by decide) ?_
      refine kq_l hw hS hA (va_runV (As := [.int 2]) (rest := [.ref qa430]) ⟨hx, hb, hml, hown, hT⟩ (cX5_take_0 l G cy ev K ln Ls hW _ hp337 ok339 qa900 2 kd900) (cwV 1 hT (good_V tb_862 tb_859 tb_861 tb_10 tb_109) rfl rfl rfl (by decide +kernel) ⟨Nat.le_of_ble_eq_true rfl, Nat.le_of_ble_eq_true rfl⟩) (pool_preV (ci := 5) hK hE hS hA hw hW kd900 (by decide) rfl) rfl rfl hl.1 rfl (lv_room (Nat.le_of_ble_eq_true rfl)) dX5_literal_78 ⟨Nat.le_of_ble_eq_true rfl, Nat.le_of_ble_eq_true rfl⟩) (fun wl436 hp432 H locs hq435 hw hS => ?_)
      obtain ⟨ok433, F434⟩ := hq435
      have hw : PW G cy K ln Ls A hp432 H := hw
      refine kq_i hw hS hA (va_runV (As := [.long wl436]) (rest := []) ⟨hx, hb, hml, hown, hT⟩ (cX10_factNamed_0 l G cy ev K ln Ls hW _ hp432 ok433 qa430 wl436 kd431) (cwV 1 hT (good_V tb_870 tb_923 tb_868 tb_869 tb_107) rfl rfl rfl (by decide +kernel) ⟨Nat.le_of_ble_eq_true rfl, Nat.le_of_ble_eq_true rfl⟩) (pool_preV (ci := 10) hK hE hS hA hw hW kd431 (by decide) rfl) rfl rfl hl.1 rfl (lv_room (Nat.le_of_ble_eq_true rfl)) dX5_literal_81 ⟨Nat.le_of_ble_eq_true rfl, Nat.le_of_ble_eq_true rfl⟩) (fun zi441 hp437 H locs hq440 hw hS => ?_)
      obtain ⟨ok438, F439, bd442⟩ := hq440
      obtain rfl : hp432 = hp437 := (Fr.nil F439).symm
      have hw : PW G cy K ln Ls A hp432 H := hw
      refine lv_istore (lv' := [(5, .int zi441), (3, .long 0), (0, .ref qa900), (1, .int zi901), (2, .int zi336)]) hx hb dX5_literal_84 hl (by decide) rfl (fun ls hl => ?_)
      refine lv_iload hx hb dX5_literal_86 (lv_at hl 0 rfl) ?_
      refine lv_if_lt (tgt := 108) hx hb dX5_literal_88 (by decide) (fun cn443 => ?_) (fun cn443 => ?_)
      · skip
        have bd444 : (-1 : Int) ≤ zi441.toInt ∧ zi441.toInt ≤ -1 := r_lt_x cn443 bd442 bc_0 (by decide) (by decide)
        refine lv_aload_n hx hb dX5_literal_108 rfl (lv_at hl 2 rfl) ?_
        refine lv_iconst (v := 4) hx hb dX5_literal_109 (by decide) ?_
        refine kq_v hw hS hA (va_runV (As := [.int 4]) (rest := []) ⟨hx, hb, hml, hown, hT⟩ (cX5_failSoftly_0 l G cy ev K ln Ls hW _ hp432 ok433 qa900 4 kd900) (cwV 1 hT (good_V tb_881 tb_878 tb_880 tb_11 tb_109) rfl rfl rfl (by decide +kernel) ⟨Nat.le_of_ble_eq_true rfl, Nat.le_of_ble_eq_true rfl⟩) (pool_preV (ci := 5) hK hE hS hA hw hW kd900 (by decide) rfl) rfl rfl hl.1 rfl (lv_room (Nat.le_of_ble_eq_true rfl)) dX5_literal_110 ⟨Nat.le_of_ble_eq_true rfl, Nat.le_of_ble_eq_true rfl⟩) (fun hp445 H locs hq448 hw hS => ?_)
        obtain ⟨ok446, F447⟩ := hq448
        have hw : PW G cy K ln Ls A hp445 H := hw
        exact jn424 hp445 0 _ _ ls ok446 (Fr.tr (Fr.tr (Fr.rf) F434 (by decide)) F447 (by decide)) (lv_sub hl [4, 1] rfl) hw hS
      · skip
        have bd450 : (0 : Int) ≤ zi441.toInt ∧ zi441.toInt ≤ 5 := r_le_y (Int32.not_lt.mp cn443) bc_0 bd442 (by decide) (by decide)
        refine lv_iload hx hb dX5_literal_91 (lv_at hl 0 rfl) ?_
        refine lv_bipush (v := 6) hx hb dX5_literal_93 (by decide) ?_
        refine lv_icmp_ge (tgt := 108) hx hb dX5_literal_95 (by decide) (fun c => absurd c (d_nle bc_6 bd450 (by decide))) (fun _ => ?_)
        refine va_getsN hx hb hE.2.1 hS hown (hK.fl nw_820) (fun _ h9 => h9) dX5_literal_98 ?_
        refine lv_iload hx hb dX5_literal_101 (lv_at hl 0 rfl) ?_
        obtain ⟨wl451, _⟩ : ∃ w : Int64, w = ev.2.2 (zi441 : Int32).toNatClampNeg := ⟨_, rfl⟩
        refine va_tl (v := .long (ev.2.2 (zi441 : Int32).toNatClampNeg)) hx hb hE.2.2 hS (vp_b bd450 (by decide) (by decide)) rfl dX5_literal_103 (lv_topl (fun wl451x _ => ?_))
        refine lv_lstore_n (lv' := [(3, .long wl451x), (5, .int zi441), (0, .ref qa900), (1, .int zi901), (2, .int zi336)]) hx hb dX5_literal_104 rfl hl (by decide) rfl (fun ls hl => ?_)
        refine lv_goto (tgt := 113) hx hb dX5_literal_105 (by decide) ?_
        exact jn424 hp432 wl451x _ _ ls ok433 (Fr.tr (Fr.rf) F434 (by decide)) (lv_sub hl [4, 0] rfl) hw hS
    · skip
      have bd452 : (40 : Int) ≤ zi343.toInt ∧ zi343.toInt ≤ 40 := r_eq_x cn344 (b_all zi343) bc_40 (by decide) (by decide)
      refine lv_aload_n hx hb dX5_literal_47 rfl (lv_at hl 1 rfl) ?_
      refine lv_iload_n hx hb dX5_literal_48 rfl (lv_at hl 2 rfl) ?_
      refine kq_i hw hS hA (va_runV (As := [.int zi901]) (rest := []) ⟨hx, hb, hml, hown, hT⟩ (cX5_enter_1 l G cy ev K ln Ls hW _ hp337 ok339 qa900 zi901 kd900 (b_wid2 bd901 (by decide) (by decide))) (cwV 1 hT (good_V tb_922 tb_919 tb_921 tb_18 tb_109) rfl rfl rfl (by decide +kernel) ⟨Nat.le_of_ble_eq_true rfl, Nat.le_of_ble_eq_true rfl⟩) (pool_preV (ci := 5) hK hE hS hA hw hW kd900 (by decide) rfl) rfl rfl hl.1 rfl (lv_room (Nat.le_of_ble_eq_true rfl)) dX5_literal_49 ⟨Nat.le_of_ble_eq_true rfl, Nat.le_of_ble_eq_true rfl⟩) (fun zi457 hp453 H locs hq456 hw hS => ?_)
      obtain ⟨ok454, F455, bd458, hc459, hc460⟩ := hq456
      have hw : PW G cy K ln Ls A hp453 H := hw
      have jn482 : ∀ (hp479 : Nat → Nat → Value) (wl478 : Int64) (H : Heap) (locs : List Loc) (ls : Array Slot), Ok K hp479 → Fr [6002, 6003, 6004, 6005, 6006] K hp453 hp479 → lv_has ls 6 [(0, .ref qa900), (2, .int zi336), (3, .long wl478)] → PW G cy K ln Ls A hp479 H → va_S A s.heap H locs → W p l e ({ frames := 17, cells := 0, slots := 0, locals := 411 } : Room) s m ([.ref qa900, .int zi901] : List Value).toArray below meth c H locs 0 0 Q (F0 m 63 ls []) := by
        intro hp479 wl478 H locs ls ok481 F480 hl hw hS
        refine lv_aload_n hx hb dX5_literal_63 rfl (lv_at hl 0 rfl) ?_
        refine lv_bipush (v := 41) hx hb dX5_literal_64 (by decide) ?_
        refine kq_v hw hS hA (va_runV (As := [.int 41]) (rest := []) ⟨hx, hb, hml, hown, hT⟩ (cX5_expect_0 l G cy ev K ln Ls hW _ hp479 ok481 qa900 41 kd900) (cwV 1 hT (good_V tb_889 tb_886 tb_888 tb_12 tb_109) rfl rfl rfl (by decide +kernel) ⟨Nat.le_of_ble_eq_true rfl, Nat.le_of_ble_eq_true rfl⟩) (pool_preV (ci := 5) hK hE hS hA hw hW kd900 (by decide) rfl) rfl rfl hl.1 rfl (lv_room (Nat.le_of_ble_eq_true rfl)) dX5_literal_66 ⟨Nat.le_of_ble_eq_true rfl, Nat.le_of_ble_eq_true rfl⟩) (fun hp483 H locs hq486 hw hS => ?_)
        obtain ⟨ok484, F485⟩ := hq486
        have hw : PW G cy K ln Ls A hp483 H := hw
        refine lv_goto (tgt := 113) hx hb dX5_literal_69 (by decide) ?_
        exact jn424 hp483 wl478 _ _ ls ok484 (Fr.tr (Fr.tr (Fr.tr (Fr.rf) F455 (by decide)) F480 (by decide)) F485 (by decide)) (lv_sub hl [1, 2] rfl) hw hS
      rcases b01 bd458 with cn461 | cn461
      · skip
        subst cn461
        refine lv_if_eq (tgt := 63) hx hb dX5_literal_52 (by decide) (fun _ => ?_) (fun c => absurd (d_eq bc_0 bc_0) c)
        exact jn482 hp453 0 _ _ ls ok454 (Fr.rf) (lv_sub hl [1, 3, 0] rfl) hw hS
      · skip
        subst cn461
        obtain ⟨zi488, eq489, bd490⟩ := hc459 rfl
        obtain ⟨zi491, eq492, bd493⟩ := hc460 rfl
        refine lv_if_eq (tgt := 63) hx hb dX5_literal_52 (by decide) (fun c => absurd c (d_ne bc_1 bc_0 (by decide))) (fun _ => ?_)
        refine lv_aload_n hx hb dX5_literal_55 rfl (lv_at hl 1 rfl) ?_
        refine lv_iload_n hx hb dX5_literal_56 rfl (lv_at hl 2 rfl) ?_
        refine lv_iconst (v := 1) hx hb dX5_literal_57 (by decide) ?_
        refine lv_iadd hx hb dX5_literal_58 (lv_topi (fun zi494 ea495 => ?_))
        have bd496 : (2 : Int) ≤ zi494.toInt ∧ zi494.toInt ≤ 2 := b_iadd ea495 bd901 bc_1 (by decide) (by decide) (by decide) (by decide)
        have qe497 : zi494.toInt = (zi901 : Int32).toInt + (1 : Int32).toInt := e_iadd ea495 bd901 bc_1 (by decide) (by decide)
        have qe498 : zi494.toInt = zi901.toInt + 1 := by have ha : (1 : Int32).toInt = 1 := (by decide); rw [ha] at qe497; exact qe497
        refine kq_l hw hS hA (va_runV (As := [.int zi494]) (rest := []) ⟨hx, hb, hml, hown, hT⟩ (cX5_cond_4 l G cy ev K ln Ls hW _ hp453 ok454 qa900 zi494 kd900 (b_wid2 bd496 (by decide) (by decide))) (cwV 1 hT (good_V tb_910 tb_907 tb_909 tb_15 tb_109) rfl rfl rfl (by decide +kernel) ⟨Nat.le_of_ble_eq_true rfl, Nat.le_of_ble_eq_true rfl⟩) (pool_preV (ci := 5) hK hE hS hA hw hW kd900 (by decide) rfl) rfl rfl hl.1 rfl (lv_room (Nat.le_of_ble_eq_true rfl)) dX5_literal_59 ⟨Nat.le_of_ble_eq_true rfl, Nat.le_of_ble_eq_true rfl⟩) (fun wl503 hp499 H locs hq502 hw hS => ?_)
        obtain ⟨ok500, F501⟩ := hq502
        have hw : PW G cy K ln Ls A hp499 H := hw
        refine lv_lstore_n (lv' := [(3, .long wl503), (0, .ref qa900), (1, .int zi901), (2, .int zi336)]) hx hb dX5_literal_62 rfl hl (by decide) rfl (fun ls hl => ?_)
        exact jn482 hp499 wl503 _ _ ls ok500 (Fr.tr (Fr.rf) F501 (by decide)) (lv_sub hl [1, 3, 0] rfl) hw hS
  have lp506 : ∀ (n504 : Nat) (hp269 : Nat → Nat → Value) (zi267 : Int32) (zi268 : Int32) (H : Heap) (locs : List Loc) (ls : Array Slot), 401 - zi268.toInt < (n504 : Int) → Ok K hp269 → Fr [6002, 6003, 6004] K hp0 hp269 → ((0 : Int) ≤ zi267.toInt ∧ zi267.toInt ≤ 1) → ((0 : Int) ≤ zi268.toInt ∧ zi268.toInt ≤ 401) → lv_has ls 6 [(0, .ref qa900), (1, .int zi901), (2, .int zi267), (3, .int zi268)] → PW G cy K ln Ls A hp269 H → va_S A s.heap H locs → W p l e ({ frames := 17, cells := 0, slots := 0, locals := 411 } : Room) s m ([.ref qa900, .int zi901] : List Value).toArray below meth c H locs 0 0 Q (F0 m 4 ls []) := by
    intro n504
    induction n504 with
    | zero =>
      intro hp269 zi267 zi268 H locs ls hm507 ok271 F270 bd272 bd273 hl hw hS
      exact absurd hm507 (by have := bd273; omega)
    | succ n504 ih505 =>
      intro hp269 zi267 zi268 H locs ls hm507 ok271 F270 bd272 bd273 hl hw hS
      refine lv_iload_n hx hb dX5_literal_4 rfl (lv_at hl 3 rfl) ?_
      refine lv_sipush (v := 400) hx hb dX5_literal_5 (by decide) ?_
      refine lv_icmp_gt (tgt := 36) hx hb dX5_literal_8 (by decide) (fun cn508 => ?_) (fun cn508 => ?_)
      · skip
        have bd509 : (401 : Int) ≤ zi268.toInt ∧ zi268.toInt ≤ 401 := r_lt_y cn508 bc_400 bd273 (by decide) (by decide)
        exact jn341 hp269 zi267 _ _ ls ok271 (Fr.tr (Fr.rf) F270 (by decide)) (b_wid2 bd272 (by decide) (by decide)) (lv_sub hl [0, 1, 2] rfl) hw hS
      · skip
        have bd510 : (0 : Int) ≤ zi268.toInt ∧ zi268.toInt ≤ 400 := r_le_x (Int32.not_lt.mp cn508) bd273 bc_400 (by decide) (by decide)
        refine lv_aload_n hx hb dX5_literal_11 rfl (lv_at hl 0 rfl) ?_
        refine lv_bipush (v := 113) hx hb dX5_literal_12 (by decide) ?_
        refine kq_i hw hS hA (va_runV (As := [.int 113]) (rest := []) ⟨hx, hb, hml, hown, hT⟩ (cX5_accept_0 l G cy ev K ln Ls hW _ hp269 ok271 qa900 113 kd900) (cwV 1 hT (good_V tb_854 tb_851 tb_853 tb_8 tb_109) rfl rfl rfl (by decide +kernel) ⟨Nat.le_of_ble_eq_true rfl, Nat.le_of_ble_eq_true rfl⟩) (pool_preV (ci := 5) hK hE hS hA hw hW kd900 (by decide) rfl) rfl rfl hl.1 rfl (lv_room (Nat.le_of_ble_eq_true rfl)) dX5_literal_14 ⟨Nat.le_of_ble_eq_true rfl, Nat.le_of_ble_eq_true rfl⟩) (fun zi515 hp511 H locs hq514 hw hS => ?_)
        obtain ⟨ok512, F513, bd516, hc517, hc518⟩ := hq514
        have hw : PW G cy K ln Ls A hp511 H := hw
        rcases b01 bd516 with cn519 | cn519
        · skip
          subst cn519
          refine lv_if_eq (tgt := 36) hx hb dX5_literal_17 (by decide) (fun _ => ?_) (fun c => absurd (d_eq bc_0 bc_0) c)
          exact jn341 hp511 zi267 _ _ ls ok512 (Fr.tr (Fr.tr (Fr.rf) F270 (by decide)) F513 (by decide)) (b_wid2 bd272 (by decide) (by decide)) (lv_sub hl [0, 1, 2] rfl) hw hS
        · skip
          subst cn519
          obtain ⟨zi520, eq521, bd522⟩ := hc517 rfl
          obtain ⟨zi523, eq524, bd525⟩ := hc518 rfl
          refine lv_if_eq (tgt := 36) hx hb dX5_literal_17 (by decide) (fun c => absurd c (d_ne bc_1 bc_0 (by decide))) (fun _ => ?_)
          refine lv_iload_n hx hb dX5_literal_20 rfl (lv_at hl 2 rfl) ?_
          have jn531 : ∀ (zi529 : Int32) (H : Heap) (locs : List Loc) (ls : Array Slot), ((0 : Int) ≤ zi529.toInt ∧ zi529.toInt ≤ 1) → lv_has ls 6 [(0, .ref qa900), (1, .int zi901), (3, .int zi268)] → PW G cy K ln Ls A hp511 H → va_S A s.heap H locs → W p l e ({ frames := 17, cells := 0, slots := 0, locals := 411 } : Room) s m ([.ref qa900, .int zi901] : List Value).toArray below meth c H locs 0 0 Q (F0 m 29 ls [.int zi529]) := by
            intro zi529 H locs ls bd530 hl hw hS
            refine lv_istore_n (lv' := [(2, .int zi529), (0, .ref qa900), (1, .int zi901), (3, .int zi268)]) hx hb dX5_literal_29 rfl hl (by decide) rfl (fun ls hl => ?_)
            obtain ⟨zi532, ea533⟩ : ∃ z : Int32, z = zi268 + 1 := ⟨_, rfl⟩
            have bd534 : (1 : Int) ≤ zi532.toInt ∧ zi532.toInt ≤ 401 := b_iadd ea533 bd510 bc_1 (by decide) (by decide) (by decide) (by decide)
            have qe535 : zi532.toInt = (zi268 : Int32).toInt + (1 : Int32).toInt := e_iadd ea533 bd510 bc_1 (by decide) (by decide)
            have qe536 : zi532.toInt = zi268.toInt + 1 := by have ha : (1 : Int32).toInt = 1 := (by decide); rw [ha] at qe535; exact qe535
            refine lv_iinc (v := zi532) (lv' := [(3, .int zi532), (2, .int zi529), (0, .ref qa900), (1, .int zi901)]) hx hb dX5_literal_30 hl (k := 3) rfl ea533.symm (by decide) rfl (fun ls hl => ?_)
            refine lv_goto (tgt := 4) hx hb dX5_literal_33 (by decide) ?_
            exact ih505 hp511 zi529 zi532 _ _ ls (by have := hm507; have := qe536; omega) ok512 (Fr.tr (Fr.tr (Fr.rf) F270 (by decide)) F513 (by decide)) (b_wid2 bd530 (by decide) (by decide)) (b_wid2 bd534 (by decide) (by decide)) (lv_sub hl [2, 3, 1, 0] rfl) hw hS
          refine lv_if_ne (tgt := 28) hx hb dX5_literal_21 (by decide) (fun cn526 => ?_) (fun cn526 => ?_)
          · skip
            have bd537 : (1 : Int) ≤ zi267.toInt ∧ zi267.toInt ≤ 1 := r_ne_lo cn526 bd272 (toi bc_0) (by decide) (by decide)
            refine lv_iconst (v := 0) hx hb dX5_literal_28 (by decide) ?_
            exact jn531 0 _ _ ls (b_wid2 bc_0 (by decide) (by decide)) (lv_sub hl [0, 1, 3] rfl) hw hS
          · skip
            have bd538 : (0 : Int) ≤ zi267.toInt ∧ zi267.toInt ≤ 0 := r_eq_x cn526 bd272 bc_0 (by decide) (by decide)
            refine lv_iconst (v := 1) hx hb dX5_literal_24 (by decide) ?_
            refine lv_goto (tgt := 29) hx hb dX5_literal_25 (by decide) ?_
            exact jn531 1 _ _ ls (b_wid2 bc_1 (by decide) (by decide)) (lv_sub hl [0, 1, 3] rfl) hw hS
  exact lp506 _ hp0 0 0 _ _ ls (lp_in _) ok0 (Fr.rf) (b_wid2 bc_0 (by decide) (by decide)) (b_wid2 bc_0 (by decide) (by decide)) (lv_sub hl [2, 3, 1, 0] rfl) hw hS

set_option maxRecDepth 100000 in
set_option maxHeartbeats 4000000 in
theorem cX5_all_5 (l : Launch) (G : va_G) (cy : Nat → ClassId) (ev : Ew) (K ln : Nat → Nat) (Ls : List Nat) (hW : SW K ln Ls) (sz : Nat) (hp0 : Nat → Nat → Value) (ok0 : Ok K hp0) (qa900 : Nat) (zi901 : Int32) (kd900 : K qa900 = 6) (bd901 : ((1 : Int) ≤ zi901.toInt ∧ zi901.toInt ≤ 1)) : Met l yX5_all (WS yX5_all cX5_all 5 (some .long)) { frames := 18, cells := 0, slots := 0, locals := 436 } (PB2 [.ref qa900, .int zi901] sz G cy ev (va_pl Ls (cellOf cy K ln hp0))) (QBl (S := (Nat → Nat → Value)) (fun (r : Int64) (u : (Nat → Nat → Value)) => Ok K u ∧ Fr [6002, 6003, 6004, 6005, 6006] K hp0 u) G (fun u => va_pl Ls (cellOf cy K ln u)) (va_A (va_pl Ls (cellOf cy K ln hp0)) sz)) 0 0 (va_A (va_pl Ls (cellOf cy K ln hp0)) sz) := by
  refine met_of2 (y := yX5_all) (L := 5) (av := [.ref qa900, .int zi901]) (Qc := fun A => QBl (S := (Nat → Nat → Value)) (fun (r : Int64) (u : (Nat → Nat → Value)) => Ok K u ∧ Fr [6002, 6003, 6004, 6005, 6006] K hp0 u) G (fun u => va_pl Ls (cellOf cy K ln u)) A) (plainFor_of_name (by decide)) (Nat.le_of_ble_eq_true rfl) ?_
  intro p e s m below meth c hsz hx hb hr hml hown hT hlocks hin hK A hA hE hw hS ls hl
  have hw : PW G cy K ln Ls A hp0 s.heap := hw
  have hown : s.vm.findClass "LieClock$Parser" = some m.cls := hown
  have hl : lv_has ls 5 [(0, .ref qa900), (1, .int zi901)] := hl
  obtain ⟨Q, hQ⟩ : ∃ Q : State → Prop, Q = MQ below (QBl (S := (Nat → Nat → Value)) (fun (r : Int64) (u : (Nat → Nat → Value)) => Ok K u ∧ Fr [6002, 6003, 6004, 6005, 6006] K hp0 u) G (fun u => va_pl Ls (cellOf cy K ln u)) A) ([.ref qa900, .int zi901] : List Value).toArray s 0 0 A := ⟨_, rfl⟩
  rw [← hQ]
  refine lv_aload_n hx hb dX5_all_0 rfl (lv_at hl 0 rfl) ?_
  refine lv_iload_n hx hb dX5_all_1 rfl (lv_at hl 1 rfl) ?_
  refine kq_l hw hS hA (va_runV (As := [.int zi901]) (rest := []) ⟨hx, hb, hml, hown, hT⟩ (cX5_literal_5 l G cy ev K ln Ls hW _ hp0 ok0 qa900 zi901 kd900 (b_wid2 bd901 (by decide) (by decide))) (cwV 1 hT (good_V tb_918 tb_915 tb_917 tb_17 tb_109) rfl rfl rfl (by decide +kernel) ⟨Nat.le_of_ble_eq_true rfl, Nat.le_of_ble_eq_true rfl⟩) (pool_preV (ci := 5) hK hE hS hA hw hW kd900 (by decide) rfl) rfl rfl hl.1 rfl (lv_room (Nat.le_of_ble_eq_true rfl)) dX5_all_2 ⟨Nat.le_of_ble_eq_true rfl, Nat.le_of_ble_eq_true rfl⟩) (fun wl5 hp1 H locs hq4 hw hS => ?_)
  obtain ⟨ok2, F3⟩ := hq4
  have hw : PW G cy K ln Ls A hp1 H := hw
  refine lv_lstore_n (lv' := [(2, .long wl5), (0, .ref qa900), (1, .int zi901)]) hx hb dX5_all_5 rfl hl (by decide) rfl (fun ls hl => ?_)
  refine lv_iconst (v := 0) hx hb dX5_all_6 (by decide) ?_
  refine lv_istore (lv' := [(4, .int 0), (2, .long wl5), (0, .ref qa900), (1, .int zi901)]) hx hb dX5_all_7 hl (by decide) rfl (fun ls hl => ?_)
  have jn325 : ∀ (hp322 : Nat → Nat → Value) (wl321 : Int64) (H : Heap) (locs : List Loc) (ls : Array Slot), Ok K hp322 → Fr [6002, 6003, 6004, 6005, 6006] K hp1 hp322 → lv_has ls 5 [(2, .long wl321)] → PW G cy K ln Ls A hp322 H → va_S A s.heap H locs → W p l e ({ frames := 18, cells := 0, slots := 0, locals := 436 } : Room) s m ([.ref qa900, .int zi901] : List Value).toArray below meth c H locs 0 0 Q (F0 m 40 ls []) := by
    intro hp322 wl321 H locs ls ok324 F323 hl hw hS
    refine lv_lload_n hx hb dX5_all_40 rfl (lv_at hl 0 rfl) ?_
    rw [hQ]
    exact kz_l hx hb hr hlocks hS hp322 hw ⟨ok324, (Fr.tr (Fr.tr (Fr.rf) F3 (by decide)) F323 (by decide))⟩ (Nat.le_of_ble_eq_true rfl) (Nat.le_of_ble_eq_true rfl) dX5_all_41
  have lp328 : ∀ (n326 : Nat) (hp259 : Nat → Nat → Value) (wl257 : Int64) (zi258 : Int32) (H : Heap) (locs : List Loc) (ls : Array Slot), 401 - zi258.toInt < (n326 : Int) → Ok K hp259 → Fr [6002, 6003, 6004, 6005, 6006] K hp1 hp259 → ((0 : Int) ≤ zi258.toInt ∧ zi258.toInt ≤ 401) → lv_has ls 5 [(0, .ref qa900), (1, .int zi901), (2, .long wl257), (4, .int zi258)] → PW G cy K ln Ls A hp259 H → va_S A s.heap H locs → W p l e ({ frames := 18, cells := 0, slots := 0, locals := 436 } : Room) s m ([.ref qa900, .int zi901] : List Value).toArray below meth c H locs 0 0 Q (F0 m 9 ls []) := by
    intro n326
    induction n326 with
    | zero =>
      intro hp259 wl257 zi258 H locs ls hm329 ok261 F260 bd262 hl hw hS
      exact absurd hm329 (by have := bd262; omega)
    | succ n326 ih327 =>
      intro hp259 wl257 zi258 H locs ls hm329 ok261 F260 bd262 hl hw hS
      refine lv_iload hx hb dX5_all_9 (lv_at hl 3 rfl) ?_
      refine lv_sipush (v := 400) hx hb dX5_all_11 (by decide) ?_
      refine lv_icmp_gt (tgt := 40) hx hb dX5_all_14 (by decide) (fun cn330 => ?_) (fun cn330 => ?_)
      · skip
        have bd331 : (401 : Int) ≤ zi258.toInt ∧ zi258.toInt ≤ 401 := r_lt_y cn330 bc_400 bd262 (by decide) (by decide)
        exact jn325 hp259 wl257 _ _ ls ok261 (Fr.tr (Fr.rf) F260 (by decide)) (lv_sub hl [2] rfl) hw hS
      · skip
        have bd332 : (0 : Int) ≤ zi258.toInt ∧ zi258.toInt ≤ 400 := r_le_x (Int32.not_lt.mp cn330) bd262 bc_400 (by decide) (by decide)
        refine lv_aload_n hx hb dX5_all_17 rfl (lv_at hl 0 rfl) ?_
        refine lv_bipush (v := 112) hx hb dX5_all_18 (by decide) ?_
        refine kq_i hw hS hA (va_runV (As := [.int 112]) (rest := []) ⟨hx, hb, hml, hown, hT⟩ (cX5_accept_0 l G cy ev K ln Ls hW _ hp259 ok261 qa900 112 kd900) (cwV 1 hT (good_V tb_854 tb_851 tb_853 tb_8 tb_109) rfl rfl rfl (by decide +kernel) ⟨Nat.le_of_ble_eq_true rfl, Nat.le_of_ble_eq_true rfl⟩) (pool_preV (ci := 5) hK hE hS hA hw hW kd900 (by decide) rfl) rfl rfl hl.1 rfl (lv_room (Nat.le_of_ble_eq_true rfl)) dX5_all_20 ⟨Nat.le_of_ble_eq_true rfl, Nat.le_of_ble_eq_true rfl⟩) (fun zi337 hp333 H locs hq336 hw hS => ?_)
        obtain ⟨ok334, F335, bd338, hc339, hc340⟩ := hq336
        have hw : PW G cy K ln Ls A hp333 H := hw
        rcases b01 bd338 with cn341 | cn341
        · skip
          subst cn341
          refine lv_if_eq (tgt := 40) hx hb dX5_all_23 (by decide) (fun _ => ?_) (fun c => absurd (d_eq bc_0 bc_0) c)
          exact jn325 hp333 wl257 _ _ ls ok334 (Fr.tr (Fr.tr (Fr.rf) F260 (by decide)) F335 (by decide)) (lv_sub hl [2] rfl) hw hS
        · skip
          subst cn341
          obtain ⟨zi342, eq343, bd344⟩ := hc339 rfl
          obtain ⟨zi345, eq346, bd347⟩ := hc340 rfl
          refine lv_if_eq (tgt := 40) hx hb dX5_all_23 (by decide) (fun c => absurd c (d_ne bc_1 bc_0 (by decide))) (fun _ => ?_)
          refine lv_lload_n hx hb dX5_all_26 rfl (lv_at hl 2 rfl) ?_
          refine lv_aload_n hx hb dX5_all_27 rfl (lv_at hl 0 rfl) ?_
          refine lv_iload_n hx hb dX5_all_28 rfl (lv_at hl 1 rfl) ?_
          refine kq_l hw hS hA (va_runV (As := [.int zi901]) (rest := [.long wl257]) ⟨hx, hb, hml, hown, hT⟩ (cX5_literal_5 l G cy ev K ln Ls hW _ hp333 ok334 qa900 zi901 kd900 (b_wid2 bd901 (by decide) (by decide))) (cwV 1 hT (good_V tb_918 tb_915 tb_917 tb_17 tb_109) rfl rfl rfl (by decide +kernel) ⟨Nat.le_of_ble_eq_true rfl, Nat.le_of_ble_eq_true rfl⟩) (pool_preV (ci := 5) hK hE hS hA hw hW kd900 (by decide) rfl) rfl rfl hl.1 rfl (lv_room (Nat.le_of_ble_eq_true rfl)) dX5_all_29 ⟨Nat.le_of_ble_eq_true rfl, Nat.le_of_ble_eq_true rfl⟩) (fun wl352 hp348 H locs hq351 hw hS => ?_)
          obtain ⟨ok349, F350⟩ := hq351
          have hw : PW G cy K ln Ls A hp348 H := hw
          refine lv_land hx hb dX5_all_32 (lv_topl (fun wl353 _ => ?_))
          refine lv_lstore_n (lv' := [(2, .long wl353), (0, .ref qa900), (1, .int zi901), (4, .int zi258)]) hx hb dX5_all_33 rfl hl (by decide) rfl (fun ls hl => ?_)
          obtain ⟨zi354, ea355⟩ : ∃ z : Int32, z = zi258 + 1 := ⟨_, rfl⟩
          have bd356 : (1 : Int) ≤ zi354.toInt ∧ zi354.toInt ≤ 401 := b_iadd ea355 bd332 bc_1 (by decide) (by decide) (by decide) (by decide)
          have qe357 : zi354.toInt = (zi258 : Int32).toInt + (1 : Int32).toInt := e_iadd ea355 bd332 bc_1 (by decide) (by decide)
          have qe358 : zi354.toInt = zi258.toInt + 1 := by have ha : (1 : Int32).toInt = 1 := (by decide); rw [ha] at qe357; exact qe357
          refine lv_iinc (v := zi354) (lv' := [(4, .int zi354), (2, .long wl353), (0, .ref qa900), (1, .int zi901)]) hx hb dX5_all_34 hl (k := 3) rfl ea355.symm (by decide) rfl (fun ls hl => ?_)
          refine lv_goto (tgt := 9) hx hb dX5_all_37 (by decide) ?_
          exact ih327 hp348 wl353 zi354 _ _ ls (by have := hm329; have := qe358; omega) ok349 (Fr.tr (Fr.tr (Fr.tr (Fr.rf) F260 (by decide)) F335 (by decide)) F350 (by decide)) (b_wid2 bd356 (by decide) (by decide)) (lv_sub hl [2, 3, 1, 0] rfl) hw hS
  exact lp328 _ hp1 wl5 0 _ _ ls (lp_in _) ok2 (Fr.rf) (b_wid2 bc_0 (by decide) (by decide)) (lv_sub hl [2, 3, 1, 0] rfl) hw hS

set_option maxRecDepth 100000 in
set_option maxHeartbeats 4000000 in
theorem cX5_cond_5 (l : Launch) (G : va_G) (cy : Nat → ClassId) (ev : Ew) (K ln : Nat → Nat) (Ls : List Nat) (hW : SW K ln Ls) (sz : Nat) (hp0 : Nat → Nat → Value) (ok0 : Ok K hp0) (qa900 : Nat) (zi901 : Int32) (kd900 : K qa900 = 6) (bd901 : ((1 : Int) ≤ zi901.toInt ∧ zi901.toInt ≤ 1)) : Met l yX5_cond (WS yX5_cond cX5_cond 5 (some .long)) { frames := 19, cells := 0, slots := 0, locals := 460 } (PB2 [.ref qa900, .int zi901] sz G cy ev (va_pl Ls (cellOf cy K ln hp0))) (QBl (S := (Nat → Nat → Value)) (fun (r : Int64) (u : (Nat → Nat → Value)) => Ok K u ∧ Fr [6002, 6003, 6004, 6005, 6006] K hp0 u) G (fun u => va_pl Ls (cellOf cy K ln u)) (va_A (va_pl Ls (cellOf cy K ln hp0)) sz)) 0 0 (va_A (va_pl Ls (cellOf cy K ln hp0)) sz) := by
  refine met_of2 (y := yX5_cond) (L := 5) (av := [.ref qa900, .int zi901]) (Qc := fun A => QBl (S := (Nat → Nat → Value)) (fun (r : Int64) (u : (Nat → Nat → Value)) => Ok K u ∧ Fr [6002, 6003, 6004, 6005, 6006] K hp0 u) G (fun u => va_pl Ls (cellOf cy K ln u)) A) (plainFor_of_name (by decide)) (Nat.le_of_ble_eq_true rfl) ?_
  intro p e s m below meth c hsz hx hb hr hml hown hT hlocks hin hK A hA hE hw hS ls hl
  have hw : PW G cy K ln Ls A hp0 s.heap := hw
  have hown : s.vm.findClass "LieClock$Parser" = some m.cls := hown
  have hl : lv_has ls 5 [(0, .ref qa900), (1, .int zi901)] := hl
  obtain ⟨Q, hQ⟩ : ∃ Q : State → Prop, Q = MQ below (QBl (S := (Nat → Nat → Value)) (fun (r : Int64) (u : (Nat → Nat → Value)) => Ok K u ∧ Fr [6002, 6003, 6004, 6005, 6006] K hp0 u) G (fun u => va_pl Ls (cellOf cy K ln u)) A) ([.ref qa900, .int zi901] : List Value).toArray s 0 0 A := ⟨_, rfl⟩
  rw [← hQ]
  refine lv_aload_n hx hb dX5_cond_0 rfl (lv_at hl 0 rfl) ?_
  refine lv_iload_n hx hb dX5_cond_1 rfl (lv_at hl 1 rfl) ?_
  refine kq_l hw hS hA (va_runV (As := [.int zi901]) (rest := []) ⟨hx, hb, hml, hown, hT⟩ (cX5_all_5 l G cy ev K ln Ls hW _ hp0 ok0 qa900 zi901 kd900 (b_wid2 bd901 (by decide) (by decide))) (cwV 1 hT (good_V tb_914 tb_911 tb_913 tb_16 tb_109) rfl rfl rfl (by decide +kernel) ⟨Nat.le_of_ble_eq_true rfl, Nat.le_of_ble_eq_true rfl⟩) (pool_preV (ci := 5) hK hE hS hA hw hW kd900 (by decide) rfl) rfl rfl hl.1 rfl (lv_room (Nat.le_of_ble_eq_true rfl)) dX5_cond_2 ⟨Nat.le_of_ble_eq_true rfl, Nat.le_of_ble_eq_true rfl⟩) (fun wl5 hp1 H locs hq4 hw hS => ?_)
  obtain ⟨ok2, F3⟩ := hq4
  have hw : PW G cy K ln Ls A hp1 H := hw
  refine lv_lstore_n (lv' := [(2, .long wl5), (0, .ref qa900), (1, .int zi901)]) hx hb dX5_cond_5 rfl hl (by decide) rfl (fun ls hl => ?_)
  refine lv_iconst (v := 0) hx hb dX5_cond_6 (by decide) ?_
  refine lv_istore (lv' := [(4, .int 0), (2, .long wl5), (0, .ref qa900), (1, .int zi901)]) hx hb dX5_cond_7 hl (by decide) rfl (fun ls hl => ?_)
  have jn325 : ∀ (hp322 : Nat → Nat → Value) (wl321 : Int64) (H : Heap) (locs : List Loc) (ls : Array Slot), Ok K hp322 → Fr [6002, 6003, 6004, 6005, 6006] K hp1 hp322 → lv_has ls 5 [(2, .long wl321)] → PW G cy K ln Ls A hp322 H → va_S A s.heap H locs → W p l e ({ frames := 19, cells := 0, slots := 0, locals := 460 } : Room) s m ([.ref qa900, .int zi901] : List Value).toArray below meth c H locs 0 0 Q (F0 m 40 ls []) := by
    intro hp322 wl321 H locs ls ok324 F323 hl hw hS
    refine lv_lload_n hx hb dX5_cond_40 rfl (lv_at hl 0 rfl) ?_
    rw [hQ]
    exact kz_l hx hb hr hlocks hS hp322 hw ⟨ok324, (Fr.tr (Fr.tr (Fr.rf) F3 (by decide)) F323 (by decide))⟩ (Nat.le_of_ble_eq_true rfl) (Nat.le_of_ble_eq_true rfl) dX5_cond_41
  have lp328 : ∀ (n326 : Nat) (hp259 : Nat → Nat → Value) (wl257 : Int64) (zi258 : Int32) (H : Heap) (locs : List Loc) (ls : Array Slot), 401 - zi258.toInt < (n326 : Int) → Ok K hp259 → Fr [6002, 6003, 6004, 6005, 6006] K hp1 hp259 → ((0 : Int) ≤ zi258.toInt ∧ zi258.toInt ≤ 401) → lv_has ls 5 [(0, .ref qa900), (1, .int zi901), (2, .long wl257), (4, .int zi258)] → PW G cy K ln Ls A hp259 H → va_S A s.heap H locs → W p l e ({ frames := 19, cells := 0, slots := 0, locals := 460 } : Room) s m ([.ref qa900, .int zi901] : List Value).toArray below meth c H locs 0 0 Q (F0 m 9 ls []) := by
    intro n326
    induction n326 with
    | zero =>
      intro hp259 wl257 zi258 H locs ls hm329 ok261 F260 bd262 hl hw hS
      exact absurd hm329 (by have := bd262; omega)
    | succ n326 ih327 =>
      intro hp259 wl257 zi258 H locs ls hm329 ok261 F260 bd262 hl hw hS
      refine lv_iload hx hb dX5_cond_9 (lv_at hl 3 rfl) ?_
      refine lv_sipush (v := 400) hx hb dX5_cond_11 (by decide) ?_
      refine lv_icmp_gt (tgt := 40) hx hb dX5_cond_14 (by decide) (fun cn330 => ?_) (fun cn330 => ?_)
      · skip
        have bd331 : (401 : Int) ≤ zi258.toInt ∧ zi258.toInt ≤ 401 := r_lt_y cn330 bc_400 bd262 (by decide) (by decide)
        exact jn325 hp259 wl257 _ _ ls ok261 (Fr.tr (Fr.rf) F260 (by decide)) (lv_sub hl [2] rfl) hw hS
      · skip
        have bd332 : (0 : Int) ≤ zi258.toInt ∧ zi258.toInt ≤ 400 := r_le_x (Int32.not_lt.mp cn330) bd262 bc_400 (by decide) (by decide)
        refine lv_aload_n hx hb dX5_cond_17 rfl (lv_at hl 0 rfl) ?_
        refine lv_bipush (v := 111) hx hb dX5_cond_18 (by decide) ?_
        refine kq_i hw hS hA (va_runV (As := [.int 111]) (rest := []) ⟨hx, hb, hml, hown, hT⟩ (cX5_accept_0 l G cy ev K ln Ls hW _ hp259 ok261 qa900 111 kd900) (cwV 1 hT (good_V tb_854 tb_851 tb_853 tb_8 tb_109) rfl rfl rfl (by decide +kernel) ⟨Nat.le_of_ble_eq_true rfl, Nat.le_of_ble_eq_true rfl⟩) (pool_preV (ci := 5) hK hE hS hA hw hW kd900 (by decide) rfl) rfl rfl hl.1 rfl (lv_room (Nat.le_of_ble_eq_true rfl)) dX5_cond_20 ⟨Nat.le_of_ble_eq_true rfl, Nat.le_of_ble_eq_true rfl⟩) (fun zi337 hp333 H locs hq336 hw hS => ?_)
        obtain ⟨ok334, F335, bd338, hc339, hc340⟩ := hq336
        have hw : PW G cy K ln Ls A hp333 H := hw
        rcases b01 bd338 with cn341 | cn341
        · skip
          subst cn341
          refine lv_if_eq (tgt := 40) hx hb dX5_cond_23 (by decide) (fun _ => ?_) (fun c => absurd (d_eq bc_0 bc_0) c)
          exact jn325 hp333 wl257 _ _ ls ok334 (Fr.tr (Fr.tr (Fr.rf) F260 (by decide)) F335 (by decide)) (lv_sub hl [2] rfl) hw hS
        · skip
          subst cn341
          obtain ⟨zi342, eq343, bd344⟩ := hc339 rfl
          obtain ⟨zi345, eq346, bd347⟩ := hc340 rfl
          refine lv_if_eq (tgt := 40) hx hb dX5_cond_23 (by decide) (fun c => absurd c (d_ne bc_1 bc_0 (by decide))) (fun _ => ?_)
          refine lv_lload_n hx hb dX5_cond_26 rfl (lv_at hl 2 rfl) ?_
          refine lv_aload_n hx hb dX5_cond_27 rfl (lv_at hl 0 rfl) ?_
          refine lv_iload_n hx hb dX5_cond_28 rfl (lv_at hl 1 rfl) ?_
          refine kq_l hw hS hA (va_runV (As := [.int zi901]) (rest := [.long wl257]) ⟨hx, hb, hml, hown, hT⟩ (cX5_all_5 l G cy ev K ln Ls hW _ hp333 ok334 qa900 zi901 kd900 (b_wid2 bd901 (by decide) (by decide))) (cwV 1 hT (good_V tb_914 tb_911 tb_913 tb_16 tb_109) rfl rfl rfl (by decide +kernel) ⟨Nat.le_of_ble_eq_true rfl, Nat.le_of_ble_eq_true rfl⟩) (pool_preV (ci := 5) hK hE hS hA hw hW kd900 (by decide) rfl) rfl rfl hl.1 rfl (lv_room (Nat.le_of_ble_eq_true rfl)) dX5_cond_29 ⟨Nat.le_of_ble_eq_true rfl, Nat.le_of_ble_eq_true rfl⟩) (fun wl352 hp348 H locs hq351 hw hS => ?_)
          obtain ⟨ok349, F350⟩ := hq351
          have hw : PW G cy K ln Ls A hp348 H := hw
          refine lv_lor hx hb dX5_cond_32 (lv_topl (fun wl353 _ => ?_))
          refine lv_lstore_n (lv' := [(2, .long wl353), (0, .ref qa900), (1, .int zi901), (4, .int zi258)]) hx hb dX5_cond_33 rfl hl (by decide) rfl (fun ls hl => ?_)
          obtain ⟨zi354, ea355⟩ : ∃ z : Int32, z = zi258 + 1 := ⟨_, rfl⟩
          have bd356 : (1 : Int) ≤ zi354.toInt ∧ zi354.toInt ≤ 401 := b_iadd ea355 bd332 bc_1 (by decide) (by decide) (by decide) (by decide)
          have qe357 : zi354.toInt = (zi258 : Int32).toInt + (1 : Int32).toInt := e_iadd ea355 bd332 bc_1 (by decide) (by decide)
          have qe358 : zi354.toInt = zi258.toInt + 1 := by have ha : (1 : Int32).toInt = 1 := (by decide); rw [ha] at qe357; exact qe357
          refine lv_iinc (v := zi354) (lv' := [(4, .int zi354), (2, .long wl353), (0, .ref qa900), (1, .int zi901)]) hx hb dX5_cond_34 hl (k := 3) rfl ea355.symm (by decide) rfl (fun ls hl => ?_)
          refine lv_goto (tgt := 9) hx hb dX5_cond_37 (by decide) ?_
          exact ih327 hp348 wl353 zi354 _ _ ls (by have := hm329; have := qe358; omega) ok349 (Fr.tr (Fr.tr (Fr.tr (Fr.rf) F260 (by decide)) F335 (by decide)) F350 (by decide)) (b_wid2 bd356 (by decide) (by decide)) (lv_sub hl [2, 3, 1, 0] rfl) hw hS
  exact lp328 _ hp1 wl5 0 _ _ ls (lp_in _) ok2 (Fr.rf) (b_wid2 bc_0 (by decide) (by decide)) (lv_sub hl [2, 3, 1, 0] rfl) hw hS

set_option maxRecDepth 100000 in
set_option maxHeartbeats 4000000 in
theorem cX5_literal_6 (l : Launch) (G : va_G) (cy : Nat → ClassId) (ev : Ew) (K ln : Nat → Nat) (Ls : List Nat) (hW : SW K ln Ls) (sz : Nat) (hp0 : Nat → Nat → Value) (ok0 : Ok K hp0) (qa900 : Nat) (zi901 : Int32) (kd900 : K qa900 = 6) (bd901 : ((0 : Int) ≤ zi901.toInt ∧ zi901.toInt ≤ 0)) : Met l yX5_literal (WS yX5_literal cX5_literal 6 (some .long)) { frames := 20, cells := 0, slots := 0, locals := 484 } (PB2 [.ref qa900, .int zi901] sz G cy ev (va_pl Ls (cellOf cy K ln hp0))) (QBl (S := (Nat → Nat → Value)) (fun (r : Int64) (u : (Nat → Nat → Value)) => Ok K u ∧ Fr [6002, 6003, 6004, 6005, 6006] K hp0 u) G (fun u => va_pl Ls (cellOf cy K ln u)) (va_A (va_pl Ls (cellOf cy K ln hp0)) sz)) 0 0 (va_A (va_pl Ls (cellOf cy K ln hp0)) sz) := by
  refine met_of2 (y := yX5_literal) (L := 6) (av := [.ref qa900, .int zi901]) (Qc := fun A => QBl (S := (Nat → Nat → Value)) (fun (r : Int64) (u : (Nat → Nat → Value)) => Ok K u ∧ Fr [6002, 6003, 6004, 6005, 6006] K hp0 u) G (fun u => va_pl Ls (cellOf cy K ln u)) A) (plainFor_of_name (by decide)) (Nat.le_of_ble_eq_true rfl) ?_
  intro p e s m below meth c hsz hx hb hr hml hown hT hlocks hin hK A hA hE hw hS ls hl
  have hw : PW G cy K ln Ls A hp0 s.heap := hw
  have hown : s.vm.findClass "LieClock$Parser" = some m.cls := hown
  have hl : lv_has ls 6 [(0, .ref qa900), (1, .int zi901)] := hl
  obtain ⟨Q, hQ⟩ : ∃ Q : State → Prop, Q = MQ below (QBl (S := (Nat → Nat → Value)) (fun (r : Int64) (u : (Nat → Nat → Value)) => Ok K u ∧ Fr [6002, 6003, 6004, 6005, 6006] K hp0 u) G (fun u => va_pl Ls (cellOf cy K ln u)) A) ([.ref qa900, .int zi901] : List Value).toArray s 0 0 A := ⟨_, rfl⟩
  rw [← hQ]
  refine lv_iconst (v := 0) hx hb dX5_literal_0 (by decide) ?_
  refine lv_istore_n (lv' := [(2, .int 0), (0, .ref qa900), (1, .int zi901)]) hx hb dX5_literal_1 rfl hl (by decide) rfl (fun ls hl => ?_)
  refine lv_iconst (v := 0) hx hb dX5_literal_2 (by decide) ?_
  refine lv_istore_n (lv' := [(3, .int 0), (2, .int 0), (0, .ref qa900), (1, .int zi901)]) hx hb dX5_literal_3 rfl hl (by decide) rfl (fun ls hl => ?_)
  have jn341 : ∀ (hp337 : Nat → Nat → Value) (zi336 : Int32) (H : Heap) (locs : List Loc) (ls : Array Slot), Ok K hp337 → Fr [6002, 6003, 6004] K hp0 hp337 → ((0 : Int) ≤ zi336.toInt ∧ zi336.toInt ≤ 1) → lv_has ls 6 [(0, .ref qa900), (1, .int zi901), (2, .int zi336)] → PW G cy K ln Ls A hp337 H → va_S A s.heap H locs → W p l e ({ frames := 20, cells := 0, slots := 0, locals := 484 } : Room) s m ([.ref qa900, .int zi901] : List Value).toArray below meth c H locs 0 0 Q (F0 m 36 ls []) := by
    intro hp337 zi336 H locs ls ok339 F338 bd340 hl hw hS
    refine lv_lconst (v := 0) hx hb dX5_literal_36 (by decide) ?_
    refine lv_lstore_n (lv' := [(3, .long 0), (0, .ref qa900), (1, .int zi901), (2, .int zi336)]) hx hb dX5_literal_37 rfl hl (by decide) rfl (fun ls hl => ?_)
    refine lv_aload_n hx hb dX5_literal_38 rfl (lv_at hl 1 rfl) ?_
    obtain ⟨zi343, eq342⟩ := rd_6003 ok339 kd900
    refine p_get (ci := 5) (v := .int zi343) (C := RX5) (T := TX5) (N := 7) hx hb hT iw_X5 hown hK hw hW kd900 (by decide) rfl rfl 3 (by decide) eq342 (hT _ tb_374) (fun _ h9 => h9) dX5_literal_39 ?_
    refine lv_bipush (v := 40) hx hb dX5_literal_42 (by decide) ?_
    have jn424 : ∀ (hp421 : Nat → Nat → Value) (wl420 : Int64) (H : Heap) (locs : List Loc) (ls : Array Slot), Ok K hp421 → Fr [6002, 6003, 6004, 6005, 6006] K hp337 hp421 → lv_has ls 6 [(2, .int zi336), (3, .long wl420)] → PW G cy K ln Ls A hp421 H → va_S A s.heap H locs → W p l e ({ frames := 20, cells := 0, slots := 0, locals := 484 } : Room) s m ([.ref qa900, .int zi901] : List Value).toArray below meth c H locs 0 0 Q (F0 m 113 ls []) := by
      intro hp421 wl420 H locs ls ok423 F422 hl hw hS
      refine lv_iload_n hx hb dX5_literal_113 rfl (lv_at hl 0 rfl) ?_
      refine lv_if_eq (tgt := 125) hx hb dX5_literal_114 (by decide) (fun cn425 => ?_) (fun cn425 => ?_)
      · skip
        have bd426 : (0 : Int) ≤ zi336.toInt ∧ zi336.toInt ≤ 0 := r_eq_x cn425 bd340 bc_0 (by decide) (by decide)
        refine lv_lload_n hx hb dX5_literal_125 rfl (lv_at hl 1 rfl) ?_
        rw [hQ]
        exact kz_l hx hb hr hlocks hS hp421 hw ⟨ok423, (Fr.tr (Fr.tr (Fr.rf) F338 (by decide)) F422 (by decide))⟩ (Nat.le_of_ble_eq_true rfl) (Nat.le_of_ble_eq_true rfl) dX5_literal_126
      · skip
        have bd427 : (1 : Int) ≤ zi336.toInt ∧ zi336.toInt ≤ 1 := r_ne_lo cn425 bd340 (toi bc_0) (by decide) (by decide)
        refine lv_lload_n hx hb dX5_literal_117 rfl (lv_at hl 1 rfl) ?_
        refine lv_ldc2 (v := (-1)) hx hb hown (hT _ tb_925) dX5_literal_118 ?_
        refine lv_lxor hx hb dX5_literal_121 (lv_topl (fun wl428 _ => ?_))
        refine lv_goto (tgt := 126) hx hb dX5_literal_122 (by decide) ?_
        rw [hQ]
        exact kz_l hx hb hr hlocks hS hp421 hw ⟨ok423, (Fr.tr (Fr.tr (Fr.rf) F338 (by decide)) F422 (by decide))⟩ (Nat.le_of_ble_eq_true rfl) (Nat.le_of_ble_eq_true rfl) dX5_literal_126
    refine lv_icmp_ne (tgt := 72) hx hb dX5_literal_44 (by decide) (fun cn344 => ?_) (fun cn344 => ?_)
    · skip
      refine lv_aload_n hx hb dX5_literal_72 rfl (lv_at hl 1 rfl) ?_
      obtain ⟨qa430, eq429, kd431⟩ := rd_6001 ok339 kd900
      refine p_get (ci := 5) (v := .ref qa430) (C := RX5) (T := TX5) (N := 7) hx hb hT iw_X5 hown hK hw hW kd900 (by decide) rfl rfl 1 (by decide) eq429 (hT _ tb_372) (fun _ h9 => h9) dX5_literal_73 ?_
      refine lv_aload_n hx hb dX5_literal_76 rfl (lv_at hl 1 rfl) ?_
      refine lv_iconst (v := 2) hx hb dX5_literal_77 (by decide) ?_
      refine kq_l hw hS hA (va_runV (As := [.int 2]) (rest := [.ref qa430]) ⟨hx, hb, hml, hown, hT⟩ (cX5_take_0 l G cy ev K ln Ls hW _ hp337 ok339 qa900 2 kd900) (cwV 1 hT (good_V tb_862 tb_859 tb_861 tb_10 tb_109) rfl rfl rfl (by decide +kernel) ⟨Nat.le_of_ble_eq_true rfl, Nat.le_of_ble_eq_true rfl⟩) (pool_preV (ci := 5) hK hE hS hA hw hW kd900 (by decide) rfl) rfl rfl hl.1 rfl (lv_room (Nat.le_of_ble_eq_true rfl)) dX5_literal_78 ⟨Nat.le_of_ble_eq_true rfl, Nat.le_of_ble_eq_true rfl⟩) (fun wl436 hp432 H locs hq435 hw hS => ?_)
      obtain ⟨ok433, F434⟩ := hq435
      have hw : PW G cy K ln Ls A hp432 H := hw
      refine kq_i hw hS hA (va_runV (As := [.long wl436]) (rest := []) ⟨hx, hb, hml, hown, hT⟩ (cX10_factNamed_0 l G cy ev K ln Ls hW _ hp432 ok433 qa430 wl436 kd431) (cwV 1 hT (good_V tb_870 tb_923 tb_868 tb_869 tb_107) rfl rfl rfl (by decide +kernel) ⟨Nat.le_of_ble_eq_true rfl, Nat.le_of_ble_eq_true rfl⟩) (pool_preV (ci := 10) hK hE hS hA hw hW kd431 (by decide) rfl) rfl rfl hl.1 rfl (lv_room (Nat.le_of_ble_eq_true rfl)) dX5_literal_81 ⟨Nat.le_of_ble_eq_true rfl, Nat.le_of_ble_eq_true rfl⟩) (fun zi441 hp437 H locs hq440 hw hS => ?_)
      obtain ⟨ok438, F439, bd442⟩ := hq440
      obtain rfl : hp432 = hp437 := (Fr.nil F439).symm
      have hw : PW G cy K ln Ls A hp432 H := hw
      refine lv_istore (lv' := [(5, .int zi441), (3, .long 0), (0, .ref qa900), (1, .int zi901), (2, .int zi336)]) hx hb dX5_literal_84 hl (by decide) rfl (fun ls hl => ?_)
      refine lv_iload hx hb dX5_literal_86 (lv_at hl 0 rfl) ?_
      refine lv_if_lt (tgt := 108) hx hb dX5_literal_88 (by decide) (fun cn443 => ?_) (fun cn443 => ?_)
      · skip
        have bd444 : (-1 : Int) ≤ zi441.toInt ∧ zi441.toInt ≤ -1 := r_lt_x cn443 bd442 bc_0 (by decide) (by decide)
        refine lv_aload_n hx hb dX5_literal_108 rfl (lv_at hl 2 rfl) ?_
        refine lv_iconst (v := 4) hx hb dX5_literal_109 (by decide) ?_
        refine kq_v hw hS hA (va_runV (As := [.int 4]) (rest := []) ⟨hx, hb, hml, hown, hT⟩ (cX5_failSoftly_0 l G cy ev K ln Ls hW _ hp432 ok433 qa900 4 kd900) (cwV 1 hT (good_V tb_881 tb_878 tb_880 tb_11 tb_109) rfl rfl rfl (by decide +kernel) ⟨Nat.le_of_ble_eq_true rfl, Nat.le_of_ble_eq_true rfl⟩) (pool_preV (ci := 5) hK hE hS hA hw hW kd900 (by decide) rfl) rfl rfl hl.1 rfl (lv_room (Nat.le_of_ble_eq_true rfl)) dX5_literal_110 ⟨Nat.le_of_ble_eq_true rfl, Nat.le_of_ble_eq_true rfl⟩) (fun hp445 H locs hq448 hw hS => ?_)
        obtain ⟨ok446, F447⟩ := hq448
        have hw : PW G cy K ln Ls A hp445 H := hw
        exact jn424 hp445 0 _ _ ls ok446 (Fr.tr (Fr.tr (Fr.rf) F434 (by decide)) F447 (by decide)) (lv_sub hl [4, 1] rfl) hw hS
      · skip
        have bd450 : (0 : Int) ≤ zi441.toInt ∧ zi441.toInt ≤ 5 := r_le_y (Int32.not_lt.mp cn443) bc_0 bd442 (by decide) (by decide)
        refine lv_iload hx hb dX5_literal_91 (lv_at hl 0 rfl) ?_
        refine lv_bipush (v := 6) hx hb dX5_literal_93 (by decide) ?_
        refine lv_icmp_ge (tgt := 108) hx hb dX5_literal_95 (by decide) (fun c => absurd c (d_nle bc_6 bd450 (by decide))) (fun _ => ?_)
        refine va_getsN hx hb hE.2.1 hS hown (hK.fl nw_820) (fun _ h9 => h9) dX5_literal_98 ?_
        refine lv_iload hx hb dX5_literal_101 (lv_at hl 0 rfl) ?_
        obtain ⟨wl451, _⟩ : ∃ w : Int64, w = ev.2.2 (zi441 : Int32).toNatClampNeg := ⟨_, rfl⟩
        refine va_tl (v := .long (ev.2.2 (zi441 : Int32).toNatClampNeg)) hx hb hE.2.2 hS (vp_b bd450 (by decide) (by decide)) rfl dX5_literal_103 (lv_topl (fun wl451x _ => ?_))
        refine lv_lstore_n (lv' := [(3, .long wl451x), (5, .int zi441), (0, .ref qa900), (1, .int zi901), (2, .int zi336)]) hx hb dX5_literal_104 rfl hl (by decide) rfl (fun ls hl => ?_)
        refine lv_goto (tgt := 113) hx hb dX5_literal_105 (by decide) ?_
        exact jn424 hp432 wl451x _ _ ls ok433 (Fr.tr (Fr.rf) F434 (by decide)) (lv_sub hl [4, 0] rfl) hw hS
    · skip
      have bd452 : (40 : Int) ≤ zi343.toInt ∧ zi343.toInt ≤ 40 := r_eq_x cn344 (b_all zi343) bc_40 (by decide) (by decide)
      refine lv_aload_n hx hb dX5_literal_47 rfl (lv_at hl 1 rfl) ?_
      refine lv_iload_n hx hb dX5_literal_48 rfl (lv_at hl 2 rfl) ?_
      refine kq_i hw hS hA (va_runV (As := [.int zi901]) (rest := []) ⟨hx, hb, hml, hown, hT⟩ (cX5_enter_0 l G cy ev K ln Ls hW _ hp337 ok339 qa900 zi901 kd900 (b_wid2 bd901 (by decide) (by decide))) (cwV 1 hT (good_V tb_922 tb_919 tb_921 tb_18 tb_109) rfl rfl rfl (by decide +kernel) ⟨Nat.le_of_ble_eq_true rfl, Nat.le_of_ble_eq_true rfl⟩) (pool_preV (ci := 5) hK hE hS hA hw hW kd900 (by decide) rfl) rfl rfl hl.1 rfl (lv_room (Nat.le_of_ble_eq_true rfl)) dX5_literal_49 ⟨Nat.le_of_ble_eq_true rfl, Nat.le_of_ble_eq_true rfl⟩) (fun zi457 hp453 H locs hq456 hw hS => ?_)
      obtain ⟨ok454, F455, bd458, hc459, hc460⟩ := hq456
      have hw : PW G cy K ln Ls A hp453 H := hw
      have jn482 : ∀ (hp479 : Nat → Nat → Value) (wl478 : Int64) (H : Heap) (locs : List Loc) (ls : Array Slot), Ok K hp479 → Fr [6002, 6003, 6004, 6005, 6006] K hp453 hp479 → lv_has ls 6 [(0, .ref qa900), (2, .int zi336), (3, .long wl478)] → PW G cy K ln Ls A hp479 H → va_S A s.heap H locs → W p l e ({ frames := 20, cells := 0, slots := 0, locals := 484 } : Room) s m ([.ref qa900, .int zi901] : List Value).toArray below meth c H locs 0 0 Q (F0 m 63 ls []) := by
        intro hp479 wl478 H locs ls ok481 F480 hl hw hS
        refine lv_aload_n hx hb dX5_literal_63 rfl (lv_at hl 0 rfl) ?_
        refine lv_bipush (v := 41) hx hb dX5_literal_64 (by decide) ?_
        refine kq_v hw hS hA (va_runV (As := [.int 41]) (rest := []) ⟨hx, hb, hml, hown, hT⟩ (cX5_expect_0 l G cy ev K ln Ls hW _ hp479 ok481 qa900 41 kd900) (cwV 1 hT (good_V tb_889 tb_886 tb_888 tb_12 tb_109) rfl rfl rfl (by decide +kernel) ⟨Nat.le_of_ble_eq_true rfl, Nat.le_of_ble_eq_true rfl⟩) (pool_preV (ci := 5) hK hE hS hA hw hW kd900 (by decide) rfl) rfl rfl hl.1 rfl (lv_room (Nat.le_of_ble_eq_true rfl)) dX5_literal_66 ⟨Nat.le_of_ble_eq_true rfl, Nat.le_of_ble_eq_true rfl⟩) (fun hp483 H locs hq486 hw hS => ?_)
        obtain ⟨ok484, F485⟩ := hq486
        have hw : PW G cy K ln Ls A hp483 H := hw
        refine lv_goto (tgt := 113) hx hb dX5_literal_69 (by decide) ?_
        exact jn424 hp483 wl478 _ _ ls ok484 (Fr.tr (Fr.tr (Fr.tr (Fr.rf) F455 (by decide)) F480 (by decide)) F485 (by decide)) (lv_sub hl [1, 2] rfl) hw hS
      rcases b01 bd458 with cn461 | cn461
      · skip
        subst cn461
        refine lv_if_eq (tgt := 63) hx hb dX5_literal_52 (by decide) (fun _ => ?_) (fun c => absurd (d_eq bc_0 bc_0) c)
        exact jn482 hp453 0 _ _ ls ok454 (Fr.rf) (lv_sub hl [1, 3, 0] rfl) hw hS
      · skip
        subst cn461
        obtain ⟨zi488, eq489, bd490⟩ := hc459 rfl
        obtain ⟨zi491, eq492, bd493⟩ := hc460 rfl
        refine lv_if_eq (tgt := 63) hx hb dX5_literal_52 (by decide) (fun c => absurd c (d_ne bc_1 bc_0 (by decide))) (fun _ => ?_)
        refine lv_aload_n hx hb dX5_literal_55 rfl (lv_at hl 1 rfl) ?_
        refine lv_iload_n hx hb dX5_literal_56 rfl (lv_at hl 2 rfl) ?_
        refine lv_iconst (v := 1) hx hb dX5_literal_57 (by decide) ?_
        refine lv_iadd hx hb dX5_literal_58 (lv_topi (fun zi494 ea495 => ?_))
        have bd496 : (1 : Int) ≤ zi494.toInt ∧ zi494.toInt ≤ 1 := b_iadd ea495 bd901 bc_1 (by decide) (by decide) (by decide) (by decide)
        have qe497 : zi494.toInt = (zi901 : Int32).toInt + (1 : Int32).toInt := e_iadd ea495 bd901 bc_1 (by decide) (by decide)
        have qe498 : zi494.toInt = zi901.toInt + 1 := by have ha : (1 : Int32).toInt = 1 := (by decide); rw [ha] at qe497; exact qe497
        refine kq_l hw hS hA (va_runV (As := [.int zi494]) (rest := []) ⟨hx, hb, hml, hown, hT⟩ (cX5_cond_5 l G cy ev K ln Ls hW _ hp453 ok454 qa900 zi494 kd900 (b_wid2 bd496 (by decide) (by decide))) (cwV 1 hT (good_V tb_910 tb_907 tb_909 tb_15 tb_109) rfl rfl rfl (by decide +kernel) ⟨Nat.le_of_ble_eq_true rfl, Nat.le_of_ble_eq_true rfl⟩) (pool_preV (ci := 5) hK hE hS hA hw hW kd900 (by decide) rfl) rfl rfl hl.1 rfl (lv_room (Nat.le_of_ble_eq_true rfl)) dX5_literal_59 ⟨Nat.le_of_ble_eq_true rfl, Nat.le_of_ble_eq_true rfl⟩) (fun wl503 hp499 H locs hq502 hw hS => ?_)
        obtain ⟨ok500, F501⟩ := hq502
        have hw : PW G cy K ln Ls A hp499 H := hw
        refine lv_lstore_n (lv' := [(3, .long wl503), (0, .ref qa900), (1, .int zi901), (2, .int zi336)]) hx hb dX5_literal_62 rfl hl (by decide) rfl (fun ls hl => ?_)
        exact jn482 hp499 wl503 _ _ ls ok500 (Fr.tr (Fr.rf) F501 (by decide)) (lv_sub hl [1, 3, 0] rfl) hw hS
  have lp506 : ∀ (n504 : Nat) (hp269 : Nat → Nat → Value) (zi267 : Int32) (zi268 : Int32) (H : Heap) (locs : List Loc) (ls : Array Slot), 401 - zi268.toInt < (n504 : Int) → Ok K hp269 → Fr [6002, 6003, 6004] K hp0 hp269 → ((0 : Int) ≤ zi267.toInt ∧ zi267.toInt ≤ 1) → ((0 : Int) ≤ zi268.toInt ∧ zi268.toInt ≤ 401) → lv_has ls 6 [(0, .ref qa900), (1, .int zi901), (2, .int zi267), (3, .int zi268)] → PW G cy K ln Ls A hp269 H → va_S A s.heap H locs → W p l e ({ frames := 20, cells := 0, slots := 0, locals := 484 } : Room) s m ([.ref qa900, .int zi901] : List Value).toArray below meth c H locs 0 0 Q (F0 m 4 ls []) := by
    intro n504
    induction n504 with
    | zero =>
      intro hp269 zi267 zi268 H locs ls hm507 ok271 F270 bd272 bd273 hl hw hS
      exact absurd hm507 (by have := bd273; omega)
    | succ n504 ih505 =>
      intro hp269 zi267 zi268 H locs ls hm507 ok271 F270 bd272 bd273 hl hw hS
      refine lv_iload_n hx hb dX5_literal_4 rfl (lv_at hl 3 rfl) ?_
      refine lv_sipush (v := 400) hx hb dX5_literal_5 (by decide) ?_
      refine lv_icmp_gt (tgt := 36) hx hb dX5_literal_8 (by decide) (fun cn508 => ?_) (fun cn508 => ?_)
      · skip
        have bd509 : (401 : Int) ≤ zi268.toInt ∧ zi268.toInt ≤ 401 := r_lt_y cn508 bc_400 bd273 (by decide) (by decide)
        exact jn341 hp269 zi267 _ _ ls ok271 (Fr.tr (Fr.rf) F270 (by decide)) (b_wid2 bd272 (by decide) (by decide)) (lv_sub hl [0, 1, 2] rfl) hw hS
      · skip
        have bd510 : (0 : Int) ≤ zi268.toInt ∧ zi268.toInt ≤ 400 := r_le_x (Int32.not_lt.mp cn508) bd273 bc_400 (by decide) (by decide)
        refine lv_aload_n hx hb dX5_literal_11 rfl (lv_at hl 0 rfl) ?_
        refine lv_bipush (v := 113) hx hb dX5_literal_12 (by decide) ?_
        refine kq_i hw hS hA (va_runV (As := [.int 113]) (rest := []) ⟨hx, hb, hml, hown, hT⟩ (cX5_accept_0 l G cy ev K ln Ls hW _ hp269 ok271 qa900 113 kd900) (cwV 1 hT (good_V tb_854 tb_851 tb_853 tb_8 tb_109) rfl rfl rfl (by decide +kernel) ⟨Nat.le_of_ble_eq_true rfl, Nat.le_of_ble_eq_true rfl⟩) (pool_preV (ci := 5) hK hE hS hA hw hW kd900 (by decide) rfl) rfl rfl hl.1 rfl (lv_room (Nat.le_of_ble_eq_true rfl)) dX5_literal_14 ⟨Nat.le_of_ble_eq_true rfl, Nat.le_of_ble_eq_true rfl⟩) (fun zi515 hp511 H locs hq514 hw hS => ?_)
        obtain ⟨ok512, F513, bd516, hc517, hc518⟩ := hq514
        have hw : PW G cy K ln Ls A hp511 H := hw
        rcases b01 bd516 with cn519 | cn519
        · skip
          subst cn519
          refine lv_if_eq (tgt := 36) hx hb dX5_literal_17 (by decide) (fun _ => ?_) (fun c => absurd (d_eq bc_0 bc_0) c)
          exact jn341 hp511 zi267 _ _ ls ok512 (Fr.tr (Fr.tr (Fr.rf) F270 (by decide)) F513 (by decide)) (b_wid2 bd272 (by decide) (by decide)) (lv_sub hl [0, 1, 2] rfl) hw hS
        · skip
          subst cn519
          obtain ⟨zi520, eq521, bd522⟩ := hc517 rfl
          obtain ⟨zi523, eq524, bd525⟩ := hc518 rfl
          refine lv_if_eq (tgt := 36) hx hb dX5_literal_17 (by decide) (fun c => absurd c (d_ne bc_1 bc_0 (by decide))) (fun _ => ?_)
          refine lv_iload_n hx hb dX5_literal_20 rfl (lv_at hl 2 rfl) ?_
          have jn531 : ∀ (zi529 : Int32) (H : Heap) (locs : List Loc) (ls : Array Slot), ((0 : Int) ≤ zi529.toInt ∧ zi529.toInt ≤ 1) → lv_has ls 6 [(0, .ref qa900), (1, .int zi901), (3, .int zi268)] → PW G cy K ln Ls A hp511 H → va_S A s.heap H locs → W p l e ({ frames := 20, cells := 0, slots := 0, locals := 484 } : Room) s m ([.ref qa900, .int zi901] : List Value).toArray below meth c H locs 0 0 Q (F0 m 29 ls [.int zi529]) := by
            intro zi529 H locs ls bd530 hl hw hS
            refine lv_istore_n (lv' := [(2, .int zi529), (0, .ref qa900), (1, .int zi901), (3, .int zi268)]) hx hb dX5_literal_29 rfl hl (by decide) rfl (fun ls hl => ?_)
            obtain ⟨zi532, ea533⟩ : ∃ z : Int32, z = zi268 + 1 := ⟨_, rfl⟩
            have bd534 : (1 : Int) ≤ zi532.toInt ∧ zi532.toInt ≤ 401 := b_iadd ea533 bd510 bc_1 (by decide) (by decide) (by decide) (by decide)
            have qe535 : zi532.toInt = (zi268 : Int32).toInt + (1 : Int32).toInt := e_iadd ea533 bd510 bc_1 (by decide) (by decide)
            have qe536 : zi532.toInt = zi268.toInt + 1 := by have ha : (1 : Int32).toInt = 1 := (by decide); rw [ha] at qe535; exact qe535
            refine lv_iinc (v := zi532) (lv' := [(3, .int zi532), (2, .int zi529), (0, .ref qa900), (1, .int zi901)]) hx hb dX5_literal_30 hl (k := 3) rfl ea533.symm (by decide) rfl (fun ls hl => ?_)
            refine lv_goto (tgt := 4) hx hb dX5_literal_33 (by decide) ?_
            exact ih505 hp511 zi529 zi532 _ _ ls (by have := hm507; have := qe536; omega) ok512 (Fr.tr (Fr.tr (Fr.rf) F270 (by decide)) F513 (by decide)) (b_wid2 bd530 (by decide) (by decide)) (b_wid2 bd534 (by decide) (by decide)) (lv_sub hl [2, 3, 1, 0] rfl) hw hS
          refine lv_if_ne (tgt := 28) hx hb dX5_literal_21 (by decide) (fun cn526 => ?_) (fun cn526 => ?_)
          · skip
            have bd537 : (1 : Int) ≤ zi267.toInt ∧ zi267.toInt ≤ 1 := r_ne_lo cn526 bd272 (toi bc_0) (by decide) (by decide)
            refine lv_iconst (v := 0) hx hb dX5_literal_28 (by decide) ?_
            exact jn531 0 _ _ ls (b_wid2 bc_0 (by decide) (by decide)) (lv_sub hl [0, 1, 3] rfl) hw hS
          · skip
            have bd538 : (0 : Int) ≤ zi267.toInt ∧ zi267.toInt ≤ 0 := r_eq_x cn526 bd272 bc_0 (by decide) (by decide)
            refine lv_iconst (v := 1) hx hb dX5_literal_24 (by decide) ?_
            refine lv_goto (tgt := 29) hx hb dX5_literal_25 (by decide) ?_
            exact jn531 1 _ _ ls (b_wid2 bc_1 (by decide) (by decide)) (lv_sub hl [0, 1, 3] rfl) hw hS
  exact lp506 _ hp0 0 0 _ _ ls (lp_in _) ok0 (Fr.rf) (b_wid2 bc_0 (by decide) (by decide)) (b_wid2 bc_0 (by decide) (by decide)) (lv_sub hl [2, 3, 1, 0] rfl) hw hS

set_option maxRecDepth 100000 in
set_option maxHeartbeats 4000000 in
theorem cX5_all_6 (l : Launch) (G : va_G) (cy : Nat → ClassId) (ev : Ew) (K ln : Nat → Nat) (Ls : List Nat) (hW : SW K ln Ls) (sz : Nat) (hp0 : Nat → Nat → Value) (ok0 : Ok K hp0) (qa900 : Nat) (zi901 : Int32) (kd900 : K qa900 = 6) (bd901 : ((0 : Int) ≤ zi901.toInt ∧ zi901.toInt ≤ 0)) : Met l yX5_all (WS yX5_all cX5_all 5 (some .long)) { frames := 21, cells := 0, slots := 0, locals := 509 } (PB2 [.ref qa900, .int zi901] sz G cy ev (va_pl Ls (cellOf cy K ln hp0))) (QBl (S := (Nat → Nat → Value)) (fun (r : Int64) (u : (Nat → Nat → Value)) => Ok K u ∧ Fr [6002, 6003, 6004, 6005, 6006] K hp0 u) G (fun u => va_pl Ls (cellOf cy K ln u)) (va_A (va_pl Ls (cellOf cy K ln hp0)) sz)) 0 0 (va_A (va_pl Ls (cellOf cy K ln hp0)) sz) := by
  refine met_of2 (y := yX5_all) (L := 5) (av := [.ref qa900, .int zi901]) (Qc := fun A => QBl (S := (Nat → Nat → Value)) (fun (r : Int64) (u : (Nat → Nat → Value)) => Ok K u ∧ Fr [6002, 6003, 6004, 6005, 6006] K hp0 u) G (fun u => va_pl Ls (cellOf cy K ln u)) A) (plainFor_of_name (by decide)) (Nat.le_of_ble_eq_true rfl) ?_
  intro p e s m below meth c hsz hx hb hr hml hown hT hlocks hin hK A hA hE hw hS ls hl
  have hw : PW G cy K ln Ls A hp0 s.heap := hw
  have hown : s.vm.findClass "LieClock$Parser" = some m.cls := hown
  have hl : lv_has ls 5 [(0, .ref qa900), (1, .int zi901)] := hl
  obtain ⟨Q, hQ⟩ : ∃ Q : State → Prop, Q = MQ below (QBl (S := (Nat → Nat → Value)) (fun (r : Int64) (u : (Nat → Nat → Value)) => Ok K u ∧ Fr [6002, 6003, 6004, 6005, 6006] K hp0 u) G (fun u => va_pl Ls (cellOf cy K ln u)) A) ([.ref qa900, .int zi901] : List Value).toArray s 0 0 A := ⟨_, rfl⟩
  rw [← hQ]
  refine lv_aload_n hx hb dX5_all_0 rfl (lv_at hl 0 rfl) ?_
  refine lv_iload_n hx hb dX5_all_1 rfl (lv_at hl 1 rfl) ?_
  refine kq_l hw hS hA (va_runV (As := [.int zi901]) (rest := []) ⟨hx, hb, hml, hown, hT⟩ (cX5_literal_6 l G cy ev K ln Ls hW _ hp0 ok0 qa900 zi901 kd900 (b_wid2 bd901 (by decide) (by decide))) (cwV 1 hT (good_V tb_918 tb_915 tb_917 tb_17 tb_109) rfl rfl rfl (by decide +kernel) ⟨Nat.le_of_ble_eq_true rfl, Nat.le_of_ble_eq_true rfl⟩) (pool_preV (ci := 5) hK hE hS hA hw hW kd900 (by decide) rfl) rfl rfl hl.1 rfl (lv_room (Nat.le_of_ble_eq_true rfl)) dX5_all_2 ⟨Nat.le_of_ble_eq_true rfl, Nat.le_of_ble_eq_true rfl⟩) (fun wl5 hp1 H locs hq4 hw hS => ?_)
  obtain ⟨ok2, F3⟩ := hq4
  have hw : PW G cy K ln Ls A hp1 H := hw
  refine lv_lstore_n (lv' := [(2, .long wl5), (0, .ref qa900), (1, .int zi901)]) hx hb dX5_all_5 rfl hl (by decide) rfl (fun ls hl => ?_)
  refine lv_iconst (v := 0) hx hb dX5_all_6 (by decide) ?_
  refine lv_istore (lv' := [(4, .int 0), (2, .long wl5), (0, .ref qa900), (1, .int zi901)]) hx hb dX5_all_7 hl (by decide) rfl (fun ls hl => ?_)
  have jn325 : ∀ (hp322 : Nat → Nat → Value) (wl321 : Int64) (H : Heap) (locs : List Loc) (ls : Array Slot), Ok K hp322 → Fr [6002, 6003, 6004, 6005, 6006] K hp1 hp322 → lv_has ls 5 [(2, .long wl321)] → PW G cy K ln Ls A hp322 H → va_S A s.heap H locs → W p l e ({ frames := 21, cells := 0, slots := 0, locals := 509 } : Room) s m ([.ref qa900, .int zi901] : List Value).toArray below meth c H locs 0 0 Q (F0 m 40 ls []) := by
    intro hp322 wl321 H locs ls ok324 F323 hl hw hS
    refine lv_lload_n hx hb dX5_all_40 rfl (lv_at hl 0 rfl) ?_
    rw [hQ]
    exact kz_l hx hb hr hlocks hS hp322 hw ⟨ok324, (Fr.tr (Fr.tr (Fr.rf) F3 (by decide)) F323 (by decide))⟩ (Nat.le_of_ble_eq_true rfl) (Nat.le_of_ble_eq_true rfl) dX5_all_41
  have lp328 : ∀ (n326 : Nat) (hp259 : Nat → Nat → Value) (wl257 : Int64) (zi258 : Int32) (H : Heap) (locs : List Loc) (ls : Array Slot), 401 - zi258.toInt < (n326 : Int) → Ok K hp259 → Fr [6002, 6003, 6004, 6005, 6006] K hp1 hp259 → ((0 : Int) ≤ zi258.toInt ∧ zi258.toInt ≤ 401) → lv_has ls 5 [(0, .ref qa900), (1, .int zi901), (2, .long wl257), (4, .int zi258)] → PW G cy K ln Ls A hp259 H → va_S A s.heap H locs → W p l e ({ frames := 21, cells := 0, slots := 0, locals := 509 } : Room) s m ([.ref qa900, .int zi901] : List Value).toArray below meth c H locs 0 0 Q (F0 m 9 ls []) := by
    intro n326
    induction n326 with
    | zero =>
      intro hp259 wl257 zi258 H locs ls hm329 ok261 F260 bd262 hl hw hS
      exact absurd hm329 (by have := bd262; omega)
    | succ n326 ih327 =>
      intro hp259 wl257 zi258 H locs ls hm329 ok261 F260 bd262 hl hw hS
      refine lv_iload hx hb dX5_all_9 (lv_at hl 3 rfl) ?_
      refine lv_sipush (v := 400) hx hb dX5_all_11 (by decide) ?_
      refine lv_icmp_gt (tgt := 40) hx hb dX5_all_14 (by decide) (fun cn330 => ?_) (fun cn330 => ?_)
      · skip
        have bd331 : (401 : Int) ≤ zi258.toInt ∧ zi258.toInt ≤ 401 := r_lt_y cn330 bc_400 bd262 (by decide) (by decide)
        exact jn325 hp259 wl257 _ _ ls ok261 (Fr.tr (Fr.rf) F260 (by decide)) (lv_sub hl [2] rfl) hw hS
      · skip
        have bd332 : (0 : Int) ≤ zi258.toInt ∧ zi258.toInt ≤ 400 := r_le_x (Int32.not_lt.mp cn330) bd262 bc_400 (by decide) (by decide)
        refine lv_aload_n hx hb dX5_all_17 rfl (lv_at hl 0 rfl) ?_
        refine lv_bipush (v := 112) hx hb dX5_all_18 (by decide) ?_
        refine kq_i hw hS hA (va_runV (As := [.int 112]) (rest := []) ⟨hx, hb, hml, hown, hT⟩ (cX5_accept_0 l G cy ev K ln Ls hW _ hp259 ok261 qa900 112 kd900) (cwV 1 hT (good_V tb_854 tb_851 tb_853 tb_8 tb_109) rfl rfl rfl (by decide +kernel) ⟨Nat.le_of_ble_eq_true rfl, Nat.le_of_ble_eq_true rfl⟩) (pool_preV (ci := 5) hK hE hS hA hw hW kd900 (by decide) rfl) rfl rfl hl.1 rfl (lv_room (Nat.le_of_ble_eq_true rfl)) dX5_all_20 ⟨Nat.le_of_ble_eq_true rfl, Nat.le_of_ble_eq_true rfl⟩) (fun zi337 hp333 H locs hq336 hw hS => ?_)
        obtain ⟨ok334, F335, bd338, hc339, hc340⟩ := hq336
        have hw : PW G cy K ln Ls A hp333 H := hw
        rcases b01 bd338 with cn341 | cn341
        · skip
          subst cn341
          refine lv_if_eq (tgt := 40) hx hb dX5_all_23 (by decide) (fun _ => ?_) (fun c => absurd (d_eq bc_0 bc_0) c)
          exact jn325 hp333 wl257 _ _ ls ok334 (Fr.tr (Fr.tr (Fr.rf) F260 (by decide)) F335 (by decide)) (lv_sub hl [2] rfl) hw hS
        · skip
          subst cn341
          obtain ⟨zi342, eq343, bd344⟩ := hc339 rfl
          obtain ⟨zi345, eq346, bd347⟩ := hc340 rfl
          refine lv_if_eq (tgt := 40) hx hb dX5_all_23 (by decide) (fun c => absurd c (d_ne bc_1 bc_0 (by decide))) (fun _ => ?_)
          refine lv_lload_n hx hb dX5_all_26 rfl (lv_at hl 2 rfl) ?_
          refine lv_aload_n hx hb dX5_all_27 rfl (lv_at hl 0 rfl) ?_
          refine lv_iload_n hx hb dX5_all_28 rfl (lv_at hl 1 rfl) ?_
          refine kq_l hw hS hA (va_runV (As := [.int zi901]) (rest := [.long wl257]) ⟨hx, hb, hml, hown, hT⟩ (cX5_literal_6 l G cy ev K ln Ls hW _ hp333 ok334 qa900 zi901 kd900 (b_wid2 bd901 (by decide) (by decide))) (cwV 1 hT (good_V tb_918 tb_915 tb_917 tb_17 tb_109) rfl rfl rfl (by decide +kernel) ⟨Nat.le_of_ble_eq_true rfl, Nat.le_of_ble_eq_true rfl⟩) (pool_preV (ci := 5) hK hE hS hA hw hW kd900 (by decide) rfl) rfl rfl hl.1 rfl (lv_room (Nat.le_of_ble_eq_true rfl)) dX5_all_29 ⟨Nat.le_of_ble_eq_true rfl, Nat.le_of_ble_eq_true rfl⟩) (fun wl352 hp348 H locs hq351 hw hS => ?_)
          obtain ⟨ok349, F350⟩ := hq351
          have hw : PW G cy K ln Ls A hp348 H := hw
          refine lv_land hx hb dX5_all_32 (lv_topl (fun wl353 _ => ?_))
          refine lv_lstore_n (lv' := [(2, .long wl353), (0, .ref qa900), (1, .int zi901), (4, .int zi258)]) hx hb dX5_all_33 rfl hl (by decide) rfl (fun ls hl => ?_)
          obtain ⟨zi354, ea355⟩ : ∃ z : Int32, z = zi258 + 1 := ⟨_, rfl⟩
          have bd356 : (1 : Int) ≤ zi354.toInt ∧ zi354.toInt ≤ 401 := b_iadd ea355 bd332 bc_1 (by decide) (by decide) (by decide) (by decide)
          have qe357 : zi354.toInt = (zi258 : Int32).toInt + (1 : Int32).toInt := e_iadd ea355 bd332 bc_1 (by decide) (by decide)
          have qe358 : zi354.toInt = zi258.toInt + 1 := by have ha : (1 : Int32).toInt = 1 := (by decide); rw [ha] at qe357; exact qe357
          refine lv_iinc (v := zi354) (lv' := [(4, .int zi354), (2, .long wl353), (0, .ref qa900), (1, .int zi901)]) hx hb dX5_all_34 hl (k := 3) rfl ea355.symm (by decide) rfl (fun ls hl => ?_)
          refine lv_goto (tgt := 9) hx hb dX5_all_37 (by decide) ?_
          exact ih327 hp348 wl353 zi354 _ _ ls (by have := hm329; have := qe358; omega) ok349 (Fr.tr (Fr.tr (Fr.tr (Fr.rf) F260 (by decide)) F335 (by decide)) F350 (by decide)) (b_wid2 bd356 (by decide) (by decide)) (lv_sub hl [2, 3, 1, 0] rfl) hw hS
  exact lp328 _ hp1 wl5 0 _ _ ls (lp_in _) ok2 (Fr.rf) (b_wid2 bc_0 (by decide) (by decide)) (lv_sub hl [2, 3, 1, 0] rfl) hw hS

set_option maxRecDepth 100000 in
set_option maxHeartbeats 4000000 in
theorem cX5_cond_6 (l : Launch) (G : va_G) (cy : Nat → ClassId) (ev : Ew) (K ln : Nat → Nat) (Ls : List Nat) (hW : SW K ln Ls) (sz : Nat) (hp0 : Nat → Nat → Value) (ok0 : Ok K hp0) (qa900 : Nat) (zi901 : Int32) (kd900 : K qa900 = 6) (bd901 : ((0 : Int) ≤ zi901.toInt ∧ zi901.toInt ≤ 0)) : Met l yX5_cond (WS yX5_cond cX5_cond 5 (some .long)) { frames := 22, cells := 0, slots := 0, locals := 533 } (PB2 [.ref qa900, .int zi901] sz G cy ev (va_pl Ls (cellOf cy K ln hp0))) (QBl (S := (Nat → Nat → Value)) (fun (r : Int64) (u : (Nat → Nat → Value)) => Ok K u ∧ Fr [6002, 6003, 6004, 6005, 6006] K hp0 u) G (fun u => va_pl Ls (cellOf cy K ln u)) (va_A (va_pl Ls (cellOf cy K ln hp0)) sz)) 0 0 (va_A (va_pl Ls (cellOf cy K ln hp0)) sz) := by
  refine met_of2 (y := yX5_cond) (L := 5) (av := [.ref qa900, .int zi901]) (Qc := fun A => QBl (S := (Nat → Nat → Value)) (fun (r : Int64) (u : (Nat → Nat → Value)) => Ok K u ∧ Fr [6002, 6003, 6004, 6005, 6006] K hp0 u) G (fun u => va_pl Ls (cellOf cy K ln u)) A) (plainFor_of_name (by decide)) (Nat.le_of_ble_eq_true rfl) ?_
  intro p e s m below meth c hsz hx hb hr hml hown hT hlocks hin hK A hA hE hw hS ls hl
  have hw : PW G cy K ln Ls A hp0 s.heap := hw
  have hown : s.vm.findClass "LieClock$Parser" = some m.cls := hown
  have hl : lv_has ls 5 [(0, .ref qa900), (1, .int zi901)] := hl
  obtain ⟨Q, hQ⟩ : ∃ Q : State → Prop, Q = MQ below (QBl (S := (Nat → Nat → Value)) (fun (r : Int64) (u : (Nat → Nat → Value)) => Ok K u ∧ Fr [6002, 6003, 6004, 6005, 6006] K hp0 u) G (fun u => va_pl Ls (cellOf cy K ln u)) A) ([.ref qa900, .int zi901] : List Value).toArray s 0 0 A := ⟨_, rfl⟩
  rw [← hQ]
  refine lv_aload_n hx hb dX5_cond_0 rfl (lv_at hl 0 rfl) ?_
  refine lv_iload_n hx hb dX5_cond_1 rfl (lv_at hl 1 rfl) ?_
  refine kq_l hw hS hA (va_runV (As := [.int zi901]) (rest := []) ⟨hx, hb, hml, hown, hT⟩ (cX5_all_6 l G cy ev K ln Ls hW _ hp0 ok0 qa900 zi901 kd900 (b_wid2 bd901 (by decide) (by decide))) (cwV 1 hT (good_V tb_914 tb_911 tb_913 tb_16 tb_109) rfl rfl rfl (by decide +kernel) ⟨Nat.le_of_ble_eq_true rfl, Nat.le_of_ble_eq_true rfl⟩) (pool_preV (ci := 5) hK hE hS hA hw hW kd900 (by decide) rfl) rfl rfl hl.1 rfl (lv_room (Nat.le_of_ble_eq_true rfl)) dX5_cond_2 ⟨Nat.le_of_ble_eq_true rfl, Nat.le_of_ble_eq_true rfl⟩) (fun wl5 hp1 H locs hq4 hw hS => ?_)
  obtain ⟨ok2, F3⟩ := hq4
  have hw : PW G cy K ln Ls A hp1 H := hw
  refine lv_lstore_n (lv' := [(2, .long wl5), (0, .ref qa900), (1, .int zi901)]) hx hb dX5_cond_5 rfl hl (by decide) rfl (fun ls hl => ?_)
  refine lv_iconst (v := 0) hx hb dX5_cond_6 (by decide) ?_
  refine lv_istore (lv' := [(4, .int 0), (2, .long wl5), (0, .ref qa900), (1, .int zi901)]) hx hb dX5_cond_7 hl (by decide) rfl (fun ls hl => ?_)
  have jn325 : ∀ (hp322 : Nat → Nat → Value) (wl321 : Int64) (H : Heap) (locs : List Loc) (ls : Array Slot), Ok K hp322 → Fr [6002, 6003, 6004, 6005, 6006] K hp1 hp322 → lv_has ls 5 [(2, .long wl321)] → PW G cy K ln Ls A hp322 H → va_S A s.heap H locs → W p l e ({ frames := 22, cells := 0, slots := 0, locals := 533 } : Room) s m ([.ref qa900, .int zi901] : List Value).toArray below meth c H locs 0 0 Q (F0 m 40 ls []) := by
    intro hp322 wl321 H locs ls ok324 F323 hl hw hS
    refine lv_lload_n hx hb dX5_cond_40 rfl (lv_at hl 0 rfl) ?_
    rw [hQ]
    exact kz_l hx hb hr hlocks hS hp322 hw ⟨ok324, (Fr.tr (Fr.tr (Fr.rf) F3 (by decide)) F323 (by decide))⟩ (Nat.le_of_ble_eq_true rfl) (Nat.le_of_ble_eq_true rfl) dX5_cond_41
  have lp328 : ∀ (n326 : Nat) (hp259 : Nat → Nat → Value) (wl257 : Int64) (zi258 : Int32) (H : Heap) (locs : List Loc) (ls : Array Slot), 401 - zi258.toInt < (n326 : Int) → Ok K hp259 → Fr [6002, 6003, 6004, 6005, 6006] K hp1 hp259 → ((0 : Int) ≤ zi258.toInt ∧ zi258.toInt ≤ 401) → lv_has ls 5 [(0, .ref qa900), (1, .int zi901), (2, .long wl257), (4, .int zi258)] → PW G cy K ln Ls A hp259 H → va_S A s.heap H locs → W p l e ({ frames := 22, cells := 0, slots := 0, locals := 533 } : Room) s m ([.ref qa900, .int zi901] : List Value).toArray below meth c H locs 0 0 Q (F0 m 9 ls []) := by
    intro n326
    induction n326 with
    | zero =>
      intro hp259 wl257 zi258 H locs ls hm329 ok261 F260 bd262 hl hw hS
      exact absurd hm329 (by have := bd262; omega)
    | succ n326 ih327 =>
      intro hp259 wl257 zi258 H locs ls hm329 ok261 F260 bd262 hl hw hS
      refine lv_iload hx hb dX5_cond_9 (lv_at hl 3 rfl) ?_
      refine lv_sipush (v := 400) hx hb dX5_cond_11 (by decide) ?_
      refine lv_icmp_gt (tgt := 40) hx hb dX5_cond_14 (by decide) (fun cn330 => ?_) (fun cn330 => ?_)
      · skip
        have bd331 : (401 : Int) ≤ zi258.toInt ∧ zi258.toInt ≤ 401 := r_lt_y cn330 bc_400 bd262 (by decide) (by decide)
        exact jn325 hp259 wl257 _ _ ls ok261 (Fr.tr (Fr.rf) F260 (by decide)) (lv_sub hl [2] rfl) hw hS
      · skip
        have bd332 : (0 : Int) ≤ zi258.toInt ∧ zi258.toInt ≤ 400 := r_le_x (Int32.not_lt.mp cn330) bd262 bc_400 (by decide) (by decide)
        refine lv_aload_n hx hb dX5_cond_17 rfl (lv_at hl 0 rfl) ?_
        refine lv_bipush (v := 111) hx hb dX5_cond_18 (by decide) ?_
        refine kq_i hw hS hA (va_runV (As := [.int 111]) (rest := []) ⟨hx, hb, hml, hown, hT⟩ (cX5_accept_0 l G cy ev K ln Ls hW _ hp259 ok261 qa900 111 kd900) (cwV 1 hT (good_V tb_854 tb_851 tb_853 tb_8 tb_109) rfl rfl rfl (by decide +kernel) ⟨Nat.le_of_ble_eq_true rfl, Nat.le_of_ble_eq_true rfl⟩) (pool_preV (ci := 5) hK hE hS hA hw hW kd900 (by decide) rfl) rfl rfl hl.1 rfl (lv_room (Nat.le_of_ble_eq_true rfl)) dX5_cond_20 ⟨Nat.le_of_ble_eq_true rfl, Nat.le_of_ble_eq_true rfl⟩) (fun zi337 hp333 H locs hq336 hw hS => ?_)
        obtain ⟨ok334, F335, bd338, hc339, hc340⟩ := hq336
        have hw : PW G cy K ln Ls A hp333 H := hw
        rcases b01 bd338 with cn341 | cn341
        · skip
          subst cn341
          refine lv_if_eq (tgt := 40) hx hb dX5_cond_23 (by decide) (fun _ => ?_) (fun c => absurd (d_eq bc_0 bc_0) c)
          exact jn325 hp333 wl257 _ _ ls ok334 (Fr.tr (Fr.tr (Fr.rf) F260 (by decide)) F335 (by decide)) (lv_sub hl [2] rfl) hw hS
        · skip
          subst cn341
          obtain ⟨zi342, eq343, bd344⟩ := hc339 rfl
          obtain ⟨zi345, eq346, bd347⟩ := hc340 rfl
          refine lv_if_eq (tgt := 40) hx hb dX5_cond_23 (by decide) (fun c => absurd c (d_ne bc_1 bc_0 (by decide))) (fun _ => ?_)
          refine lv_lload_n hx hb dX5_cond_26 rfl (lv_at hl 2 rfl) ?_
          refine lv_aload_n hx hb dX5_cond_27 rfl (lv_at hl 0 rfl) ?_
          refine lv_iload_n hx hb dX5_cond_28 rfl (lv_at hl 1 rfl) ?_
          refine kq_l hw hS hA (va_runV (As := [.int zi901]) (rest := [.long wl257]) ⟨hx, hb, hml, hown, hT⟩ (cX5_all_6 l G cy ev K ln Ls hW _ hp333 ok334 qa900 zi901 kd900 (b_wid2 bd901 (by decide) (by decide))) (cwV 1 hT (good_V tb_914 tb_911 tb_913 tb_16 tb_109) rfl rfl rfl (by decide +kernel) ⟨Nat.le_of_ble_eq_true rfl, Nat.le_of_ble_eq_true rfl⟩) (pool_preV (ci := 5) hK hE hS hA hw hW kd900 (by decide) rfl) rfl rfl hl.1 rfl (lv_room (Nat.le_of_ble_eq_true rfl)) dX5_cond_29 ⟨Nat.le_of_ble_eq_true rfl, Nat.le_of_ble_eq_true rfl⟩) (fun wl352 hp348 H locs hq351 hw hS => ?_)
          obtain ⟨ok349, F350⟩ := hq351
          have hw : PW G cy K ln Ls A hp348 H := hw
          refine lv_lor hx hb dX5_cond_32 (lv_topl (fun wl353 _ => ?_))
          refine lv_lstore_n (lv' := [(2, .long wl353), (0, .ref qa900), (1, .int zi901), (4, .int zi258)]) hx hb dX5_cond_33 rfl hl (by decide) rfl (fun ls hl => ?_)
          obtain ⟨zi354, ea355⟩ : ∃ z : Int32, z = zi258 + 1 := ⟨_, rfl⟩
          have bd356 : (1 : Int) ≤ zi354.toInt ∧ zi354.toInt ≤ 401 := b_iadd ea355 bd332 bc_1 (by decide) (by decide) (by decide) (by decide)
          have qe357 : zi354.toInt = (zi258 : Int32).toInt + (1 : Int32).toInt := e_iadd ea355 bd332 bc_1 (by decide) (by decide)
          have qe358 : zi354.toInt = zi258.toInt + 1 := by have ha : (1 : Int32).toInt = 1 := (by decide); rw [ha] at qe357; exact qe357
          refine lv_iinc (v := zi354) (lv' := [(4, .int zi354), (2, .long wl353), (0, .ref qa900), (1, .int zi901)]) hx hb dX5_cond_34 hl (k := 3) rfl ea355.symm (by decide) rfl (fun ls hl => ?_)
          refine lv_goto (tgt := 9) hx hb dX5_cond_37 (by decide) ?_
          exact ih327 hp348 wl353 zi354 _ _ ls (by have := hm329; have := qe358; omega) ok349 (Fr.tr (Fr.tr (Fr.tr (Fr.rf) F260 (by decide)) F335 (by decide)) F350 (by decide)) (b_wid2 bd356 (by decide) (by decide)) (lv_sub hl [2, 3, 1, 0] rfl) hw hS
  exact lp328 _ hp1 wl5 0 _ _ ls (lp_in _) ok2 (Fr.rf) (b_wid2 bc_0 (by decide) (by decide)) (lv_sub hl [2, 3, 1, 0] rfl) hw hS

set_option maxRecDepth 100000 in
set_option maxHeartbeats 4000000 in
theorem cX5_tellWord_0 (l : Launch) (G : va_G) (cy : Nat → ClassId) (ev : Ew) (K ln : Nat → Nat) (Ls : List Nat) (hW : SW K ln Ls) (sz : Nat) (hp0 : Nat → Nat → Value) (ok0 : Ok K hp0) (qa900 : Nat) (kd900 : K qa900 = 6) : Met l yX5_tellWord (WS yX5_tellWord cX5_tellWord 5 none) { frames := 23, cells := 0, slots := 0, locals := 557 } (PB2 [.ref qa900] sz G cy ev (va_pl Ls (cellOf cy K ln hp0))) (QBv (S := (Nat → Nat → Value)) (fun u : (Nat → Nat → Value) => Ok K u ∧ Fr [6002, 6003, 6004, 6005, 6006, 11004, 11005, 50000, 51000, 52000] K hp0 u) G (fun u => va_pl Ls (cellOf cy K ln u)) (va_A (va_pl Ls (cellOf cy K ln hp0)) sz)) 0 0 (va_A (va_pl Ls (cellOf cy K ln hp0)) sz) := by
  refine met_of2 (y := yX5_tellWord) (L := 5) (av := [.ref qa900]) (Qc := fun A => QBv (S := (Nat → Nat → Value)) (fun u : (Nat → Nat → Value) => Ok K u ∧ Fr [6002, 6003, 6004, 6005, 6006, 11004, 11005, 50000, 51000, 52000] K hp0 u) G (fun u => va_pl Ls (cellOf cy K ln u)) A) (plainFor_of_name (by decide)) (Nat.le_of_ble_eq_true rfl) ?_
  intro p e s m below meth c hsz hx hb hr hml hown hT hlocks hin hK A hA hE hw hS ls hl
  have hw : PW G cy K ln Ls A hp0 s.heap := hw
  have hown : s.vm.findClass "LieClock$Parser" = some m.cls := hown
  have hl : lv_has ls 5 [(0, .ref qa900)] := hl
  obtain ⟨Q, hQ⟩ : ∃ Q : State → Prop, Q = MQ below (QBv (S := (Nat → Nat → Value)) (fun u : (Nat → Nat → Value) => Ok K u ∧ Fr [6002, 6003, 6004, 6005, 6006, 11004, 11005, 50000, 51000, 52000] K hp0 u) G (fun u => va_pl Ls (cellOf cy K ln u)) A) ([.ref qa900] : List Value).toArray s 0 0 A := ⟨_, rfl⟩
  rw [← hQ]
  refine lv_aload_n hx hb dX5_tellWord_0 rfl (lv_at hl 0 rfl) ?_
  refine lv_aload_n hx hb dX5_tellWord_1 rfl (lv_at hl 0 rfl) ?_
  obtain ⟨qa2, eq1, kd3⟩ := rd_6001 ok0 kd900
  refine p_get (ci := 5) (v := .ref qa2) (C := RX5) (T := TX5) (N := 7) hx hb hT iw_X5 hown hK hw hW kd900 (by decide) rfl rfl 1 (by decide) eq1 (hT _ tb_372) (fun _ h9 => h9) dX5_tellWord_2 ?_
  obtain ⟨zi5, eq4, bd6⟩ := rd_11004 ok0 kd3
  refine p_getN (ci := 10) (v := .int zi5) (C := RX10) (T := TX10) (N := 20) hx hb hT iw_X10 hown hK hw hW kd3 (by decide) rfl rfl 4 (by decide) eq4 (hK.fl nw_99) (fun _ h9 => h9) dX5_tellWord_5 ?_
  refine lv_bipush (v := 16) hx hb dX5_tellWord_8 (by decide) ?_
  refine kq_v hw hS hA (va_runV (As := [.int zi5, .int 16]) (rest := []) ⟨hx, hb, hml, hown, hT⟩ (cX5_begin_0 l G cy ev K ln Ls hW _ hp0 ok0 qa900 zi5 16 kd900) (cwV 2 hT (good_V tb_846 tb_843 tb_845 tb_6 tb_109) rfl rfl rfl (by decide +kernel) ⟨Nat.le_of_ble_eq_true rfl, Nat.le_of_ble_eq_true rfl⟩) (pool_preV (ci := 5) hK hE hS hA hw hW kd900 (by decide) rfl) rfl rfl hl.1 rfl (lv_room (Nat.le_of_ble_eq_true rfl)) dX5_tellWord_10 ⟨Nat.le_of_ble_eq_true rfl, Nat.le_of_ble_eq_true rfl⟩) (fun hp7 H locs hq10 hw hS => ?_)
  obtain ⟨ok8, F9⟩ := hq10
  have hw : PW G cy K ln Ls A hp7 H := hw
  refine lv_aload_n hx hb dX5_tellWord_13 rfl (lv_at hl 0 rfl) ?_
  have eq12 : hp7 qa900 1 = .ref qa2 := Eq.trans (Fr.at (cq := 6001) F9 kd900 (cd_o (by decide)) (by decide)) eq1
  refine p_get (ci := 5) (v := .ref qa2) (C := RX5) (T := TX5) (N := 7) hx hb hT iw_X5 hown hK hw hW kd900 (by decide) rfl rfl 1 (by decide) eq12 (hT _ tb_372) (fun _ h9 => h9) dX5_tellWord_14 ?_
  refine lv_aload_n hx hb dX5_tellWord_17 rfl (lv_at hl 0 rfl) ?_
  refine lv_iconst (v := 2) hx hb dX5_tellWord_18 (by decide) ?_
  refine kq_l hw hS hA (va_runV (As := [.int 2]) (rest := [.ref qa2]) ⟨hx, hb, hml, hown, hT⟩ (cX5_take_0 l G cy ev K ln Ls hW _ hp7 ok8 qa900 2 kd900) (cwV 1 hT (good_V tb_862 tb_859 tb_861 tb_10 tb_109) rfl rfl rfl (by decide +kernel) ⟨Nat.le_of_ble_eq_true rfl, Nat.le_of_ble_eq_true rfl⟩) (pool_preV (ci := 5) hK hE hS hA hw hW kd900 (by decide) rfl) rfl rfl hl.1 rfl (lv_room (Nat.le_of_ble_eq_true rfl)) dX5_tellWord_19 ⟨Nat.le_of_ble_eq_true rfl, Nat.le_of_ble_eq_true rfl⟩) (fun wl17 hp13 H locs hq16 hw hS => ?_)
  obtain ⟨ok14, F15⟩ := hq16
  have hw : PW G cy K ln Ls A hp13 H := hw
  refine kq_i hw hS hA (va_runV (As := [.long wl17]) (rest := []) ⟨hx, hb, hml, hown, hT⟩ (cX10_witnessNamed_0 l G cy ev K ln Ls hW _ hp13 ok14 qa2 wl17 kd3) (cwV 1 hT (good_V tb_877 tb_906 tb_875 tb_876 tb_107) rfl rfl rfl (by decide +kernel) ⟨Nat.le_of_ble_eq_true rfl, Nat.le_of_ble_eq_true rfl⟩) (pool_preV (ci := 10) hK hE hS hA hw hW kd3 (by decide) rfl) rfl rfl hl.1 rfl (lv_room (Nat.le_of_ble_eq_true rfl)) dX5_tellWord_22 ⟨Nat.le_of_ble_eq_true rfl, Nat.le_of_ble_eq_true rfl⟩) (fun zi22 hp18 H locs hq21 hw hS => ?_)
  obtain ⟨ok19, F20, bd23⟩ := hq21
  obtain rfl : hp13 = hp18 := (Fr.nil F20).symm
  have hw : PW G cy K ln Ls A hp13 H := hw
  refine lv_istore_n (lv' := [(1, .int zi22), (0, .ref qa900)]) hx hb dX5_tellWord_25 rfl hl (by decide) rfl (fun ls hl => ?_)
  refine lv_iload_n hx hb dX5_tellWord_26 rfl (lv_at hl 0 rfl) ?_
  have jn35 : ∀ (hp32 : Nat → Nat → Value)  (H : Heap) (locs : List Loc) (ls : Array Slot), Ok K hp32 → Fr [6005, 6006] K hp13 hp32 → lv_has ls 5 [(0, .ref qa900), (1, .int zi22)] → PW G cy K ln Ls A hp32 H → va_S A s.heap H locs → W p l e ({ frames := 23, cells := 0, slots := 0, locals := 557 } : Room) s m ([.ref qa900] : List Value).toArray below meth c H locs 0 0 Q (F0 m 35 ls []) := by
    intro hp32 H locs ls ok34 F33 hl hw hS
    refine lv_aload_n hx hb dX5_tellWord_35 rfl (lv_at hl 0 rfl) ?_
    refine lv_bipush (v := 106) hx hb dX5_tellWord_36 (by decide) ?_
    refine kq_i hw hS hA (va_runV (As := [.int 106]) (rest := []) ⟨hx, hb, hml, hown, hT⟩ (cX5_accept_0 l G cy ev K ln Ls hW _ hp32 ok34 qa900 106 kd900) (cwV 1 hT (good_V tb_854 tb_851 tb_853 tb_8 tb_109) rfl rfl rfl (by decide +kernel) ⟨Nat.le_of_ble_eq_true rfl, Nat.le_of_ble_eq_true rfl⟩) (pool_preV (ci := 5) hK hE hS hA hw hW kd900 (by decide) rfl) rfl rfl hl.1 rfl (lv_room (Nat.le_of_ble_eq_true rfl)) dX5_tellWord_38 ⟨Nat.le_of_ble_eq_true rfl, Nat.le_of_ble_eq_true rfl⟩) (fun zi40 hp36 H locs hq39 hw hS => ?_)
    obtain ⟨ok37, F38, bd41, hc42, hc43⟩ := hq39
    have hw : PW G cy K ln Ls A hp36 H := hw
    refine lv_istore_n (lv' := [(2, .int zi40), (0, .ref qa900), (1, .int zi22)]) hx hb dX5_tellWord_41 rfl hl (by decide) rfl (fun ls hl => ?_)
    refine lv_aload_n hx hb dX5_tellWord_42 rfl (lv_at hl 1 rfl) ?_
    refine lv_bipush (v := 61) hx hb dX5_tellWord_43 (by decide) ?_
    refine kq_v hw hS hA (va_runV (As := [.int 61]) (rest := []) ⟨hx, hb, hml, hown, hT⟩ (cX5_expect_0 l G cy ev K ln Ls hW _ hp36 ok37 qa900 61 kd900) (cwV 1 hT (good_V tb_889 tb_886 tb_888 tb_12 tb_109) rfl rfl rfl (by decide +kernel) ⟨Nat.le_of_ble_eq_true rfl, Nat.le_of_ble_eq_true rfl⟩) (pool_preV (ci := 5) hK hE hS hA hw hW kd900 (by decide) rfl) rfl rfl hl.1 rfl (lv_room (Nat.le_of_ble_eq_true rfl)) dX5_tellWord_45 ⟨Nat.le_of_ble_eq_true rfl, Nat.le_of_ble_eq_true rfl⟩) (fun hp44 H locs hq47 hw hS => ?_)
    obtain ⟨ok45, F46⟩ := hq47
    have hw : PW G cy K ln Ls A hp44 H := hw
    refine lv_aload_n hx hb dX5_tellWord_48 rfl (lv_at hl 1 rfl) ?_
    refine lv_iconst (v := 0) hx hb dX5_tellWord_49 (by decide) ?_
    refine kq_l hw hS hA (va_runV (As := [.int 0]) (rest := []) ⟨hx, hb, hml, hown, hT⟩ (cX5_cond_6 l G cy ev K ln Ls hW _ hp44 ok45 qa900 0 kd900 (b_wid2 bc_0 (by decide) (by decide))) (cwV 1 hT (good_V tb_910 tb_907 tb_909 tb_15 tb_109) rfl rfl rfl (by decide +kernel) ⟨Nat.le_of_ble_eq_true rfl, Nat.le_of_ble_eq_true rfl⟩) (pool_preV (ci := 5) hK hE hS hA hw hW kd900 (by decide) rfl) rfl rfl hl.1 rfl (lv_room (Nat.le_of_ble_eq_true rfl)) dX5_tellWord_50 ⟨Nat.le_of_ble_eq_true rfl, Nat.le_of_ble_eq_true rfl⟩) (fun wl53 hp49 H locs hq52 hw hS => ?_)
    obtain ⟨ok50, F51⟩ := hq52
    have hw : PW G cy K ln Ls A hp49 H := hw
    refine lv_lstore_n (lv' := [(3, .long wl53), (2, .int zi40), (0, .ref qa900), (1, .int zi22)]) hx hb dX5_tellWord_53 rfl hl (by decide) rfl (fun ls hl => ?_)
    refine lv_aload_n hx hb dX5_tellWord_54 rfl (lv_at hl 2 rfl) ?_
    refine lv_bipush (v := 59) hx hb dX5_tellWord_55 (by decide) ?_
    refine kq_v hw hS hA (va_runV (As := [.int 59]) (rest := []) ⟨hx, hb, hml, hown, hT⟩ (cX5_expect_0 l G cy ev K ln Ls hW _ hp49 ok50 qa900 59 kd900) (cwV 1 hT (good_V tb_889 tb_886 tb_888 tb_12 tb_109) rfl rfl rfl (by decide +kernel) ⟨Nat.le_of_ble_eq_true rfl, Nat.le_of_ble_eq_true rfl⟩) (pool_preV (ci := 5) hK hE hS hA hw hW kd900 (by decide) rfl) rfl rfl hl.1 rfl (lv_room (Nat.le_of_ble_eq_true rfl)) dX5_tellWord_57 ⟨Nat.le_of_ble_eq_true rfl, Nat.le_of_ble_eq_true rfl⟩) (fun hp54 H locs hq57 hw hS => ?_)
    obtain ⟨ok55, F56⟩ := hq57
    have hw : PW G cy K ln Ls A hp54 H := hw
    refine lv_aload_n hx hb dX5_tellWord_60 rfl (lv_at hl 2 rfl) ?_
    obtain ⟨zi60, eq59, bd61⟩ := rd_6004 ok55 kd900
    refine p_get (ci := 5) (v := .int zi60) (C := RX5) (T := TX5) (N := 7) hx hb hT iw_X5 hown hK hw hW kd900 (by decide) rfl rfl 4 (by decide) eq59 (hT _ tb_375) (fun _ h9 => h9) dX5_tellWord_61 ?_
    refine lv_if_ne (tgt := 77) hx hb dX5_tellWord_64 (by decide) (fun cn62 => ?_) (fun cn62 => ?_)
    · skip
      have bd63 : (1 : Int) ≤ zi60.toInt ∧ zi60.toInt ≤ 2 := r_ne_lo cn62 bd61 (toi bc_0) (by decide) (by decide)
      rw [hQ]
      exact kz_v hx hb hr hlocks hS hp54 hw ⟨ok55, (Fr.tr (Fr.tr (Fr.tr (Fr.tr (Fr.tr (Fr.tr (Fr.tr (Fr.rf) F9 (by decide)) F15 (by decide)) F33 (by decide)) F38 (by decide)) F46 (by decide)) F51 (by decide)) F56 (by decide))⟩ (Nat.le_of_ble_eq_true rfl) (Nat.le_of_ble_eq_true rfl) dX5_tellWord_77
    · skip
      have bd64 : (0 : Int) ≤ zi60.toInt ∧ zi60.toInt ≤ 0 := r_eq_x cn62 bd61 bc_0 (by decide) (by decide)
      refine lv_aload_n hx hb dX5_tellWord_67 rfl (lv_at hl 2 rfl) ?_
      have eq65 : hp54 qa900 1 = .ref qa2 := Eq.trans (Fr.at (cq := 6001) F56 kd900 (cd_o (by decide)) (by decide)) (Eq.trans (Fr.at (cq := 6001) F51 kd900 (cd_o (by decide)) (by decide)) (Eq.trans (Fr.at (cq := 6001) F46 kd900 (cd_o (by decide)) (by decide)) (Eq.trans (Fr.at (cq := 6001) F38 kd900 (cd_o (by decide)) (by decide)) (Eq.trans (Fr.at (cq := 6001) F33 kd900 (cd_o (by decide)) (by decide)) (Eq.trans (Fr.at (cq := 6001) F15 kd900 (cd_o (by decide)) (by decide)) eq12)))))
      refine p_get (ci := 5) (v := .ref qa2) (C := RX5) (T := TX5) (N := 7) hx hb hT iw_X5 hown hK hw hW kd900 (by decide) rfl rfl 1 (by decide) eq65 (hT _ tb_372) (fun _ h9 => h9) dX5_tellWord_68 ?_
      refine lv_iload_n hx hb dX5_tellWord_71 rfl (lv_at hl 3 rfl) ?_
      refine lv_iload_n hx hb dX5_tellWord_72 rfl (lv_at hl 1 rfl) ?_
      refine lv_lload_n hx hb dX5_tellWord_73 rfl (lv_at hl 0 rfl) ?_
      refine kq_v hw hS hA (va_runV (As := [.int zi22, .int zi40, .long wl53]) (rest := []) ⟨hx, hb, hml, hown, hT⟩ (cX10_addWord_0 l G cy ev K ln Ls hW _ hp54 ok55 qa2 zi22 zi40 wl53 kd3 (b_wid2 bd41 (by decide) (by decide))) (cwV 3 hT (good_V tb_929 tb_926 tb_927 tb_928 tb_107) rfl rfl rfl (by decide +kernel) ⟨Nat.le_of_ble_eq_true rfl, Nat.le_of_ble_eq_true rfl⟩) (pool_preV (ci := 10) hK hE hS hA hw hW kd3 (by decide) rfl) rfl rfl hl.1 rfl (lv_room (Nat.le_of_ble_eq_true rfl)) dX5_tellWord_74 ⟨Nat.le_of_ble_eq_true rfl, Nat.le_of_ble_eq_true rfl⟩) (fun hp66 H locs hq69 hw hS => ?_)
      obtain ⟨ok67, F68⟩ := hq69
      have hw : PW G cy K ln Ls A hp66 H := hw
      rw [hQ]
      exact kz_v hx hb hr hlocks hS hp66 hw ⟨ok67, (Fr.tr (Fr.tr (Fr.tr (Fr.tr (Fr.tr (Fr.tr (Fr.tr (Fr.tr (Fr.rf) F9 (by decide)) F15 (by decide)) F33 (by decide)) F38 (by decide)) F46 (by decide)) F51 (by decide)) F56 (by decide)) F68 (by decide))⟩ (Nat.le_of_ble_eq_true rfl) (Nat.le_of_ble_eq_true rfl) dX5_tellWord_77
  refine lv_if_ge (tgt := 35) hx hb dX5_tellWord_27 (by decide) (fun cn24 => ?_) (fun cn24 => ?_)
  · skip
    have bd71 : (0 : Int) ≤ zi22.toInt ∧ zi22.toInt ≤ 5 := r_le_y cn24 bc_0 bd23 (by decide) (by decide)
    exact jn35 hp13 _ _ ls ok14 (Fr.rf) (lv_sub hl [1, 0] rfl) hw hS
  · skip
    have bd72 : (-1 : Int) ≤ zi22.toInt ∧ zi22.toInt ≤ -1 := r_lt_x (Int32.not_le.mp cn24) bd23 bc_0 (by decide) (by decide)
    refine lv_aload_n hx hb dX5_tellWord_30 rfl (lv_at hl 1 rfl) ?_
    refine lv_iconst (v := 4) hx hb dX5_tellWord_31 (by decide) ?_
    refine kq_v hw hS hA (va_runV (As := [.int 4]) (rest := []) ⟨hx, hb, hml, hown, hT⟩ (cX5_failSoftly_0 l G cy ev K ln Ls hW _ hp13 ok14 qa900 4 kd900) (cwV 1 hT (good_V tb_881 tb_878 tb_880 tb_11 tb_109) rfl rfl rfl (by decide +kernel) ⟨Nat.le_of_ble_eq_true rfl, Nat.le_of_ble_eq_true rfl⟩) (pool_preV (ci := 5) hK hE hS hA hw hW kd900 (by decide) rfl) rfl rfl hl.1 rfl (lv_room (Nat.le_of_ble_eq_true rfl)) dX5_tellWord_32 ⟨Nat.le_of_ble_eq_true rfl, Nat.le_of_ble_eq_true rfl⟩) (fun hp73 H locs hq76 hw hS => ?_)
    obtain ⟨ok74, F75⟩ := hq76
    have hw : PW G cy K ln Ls A hp73 H := hw
    exact jn35 hp73 _ _ ls ok74 (Fr.tr (Fr.rf) F75 (by decide)) (lv_sub hl [1, 0] rfl) hw hS

set_option maxRecDepth 100000 in
set_option maxHeartbeats 4000000 in
theorem cX5_takeMinute_0 (l : Launch) (G : va_G) (cy : Nat → ClassId) (ev : Ew) (K ln : Nat → Nat) (Ls : List Nat) (hW : SW K ln Ls) (sz : Nat) (hp0 : Nat → Nat → Value) (ok0 : Ok K hp0) (qa900 : Nat) (kd900 : K qa900 = 6) : Met l yX5_takeMinute (WS yX5_takeMinute cX5_takeMinute 2 (some .int)) { frames := 2, cells := 0, slots := 0, locals := 42 } (PB2 [.ref qa900] sz G cy ev (va_pl Ls (cellOf cy K ln hp0))) (QBi (S := (Nat → Nat → Value)) (fun (r : Int32) (u : (Nat → Nat → Value)) => Ok K u ∧ Fr [6002, 6003, 6004, 6005, 6006] K hp0 u) G (fun u => va_pl Ls (cellOf cy K ln u)) (va_A (va_pl Ls (cellOf cy K ln hp0)) sz)) 0 0 (va_A (va_pl Ls (cellOf cy K ln hp0)) sz) := by
  refine met_of2 (y := yX5_takeMinute) (L := 2) (av := [.ref qa900]) (Qc := fun A => QBi (S := (Nat → Nat → Value)) (fun (r : Int32) (u : (Nat → Nat → Value)) => Ok K u ∧ Fr [6002, 6003, 6004, 6005, 6006] K hp0 u) G (fun u => va_pl Ls (cellOf cy K ln u)) A) (plainFor_of_name (by decide)) (Nat.le_of_ble_eq_true rfl) ?_
  intro p e s m below meth c hsz hx hb hr hml hown hT hlocks hin hK A hA hE hw hS ls hl
  have hw : PW G cy K ln Ls A hp0 s.heap := hw
  have hown : s.vm.findClass "LieClock$Parser" = some m.cls := hown
  have hl : lv_has ls 2 [(0, .ref qa900)] := hl
  obtain ⟨Q, hQ⟩ : ∃ Q : State → Prop, Q = MQ below (QBi (S := (Nat → Nat → Value)) (fun (r : Int32) (u : (Nat → Nat → Value)) => Ok K u ∧ Fr [6002, 6003, 6004, 6005, 6006] K hp0 u) G (fun u => va_pl Ls (cellOf cy K ln u)) A) ([.ref qa900] : List Value).toArray s 0 0 A := ⟨_, rfl⟩
  rw [← hQ]
  refine lv_aload_n hx hb dX5_takeMinute_0 rfl (lv_at hl 0 rfl) ?_
  refine lv_iconst (v := 3) hx hb dX5_takeMinute_1 (by decide) ?_
  refine kq_l hw hS hA (va_runV (As := [.int 3]) (rest := []) ⟨hx, hb, hml, hown, hT⟩ (cX5_take_0 l G cy ev K ln Ls hW _ hp0 ok0 qa900 3 kd900) (cwV 1 hT (good_V tb_862 tb_859 tb_861 tb_10 tb_109) rfl rfl rfl (by decide +kernel) ⟨Nat.le_of_ble_eq_true rfl, Nat.le_of_ble_eq_true rfl⟩) (pool_preV (ci := 5) hK hE hS hA hw hW kd900 (by decide) rfl) rfl rfl hl.1 rfl (lv_room (Nat.le_of_ble_eq_true rfl)) dX5_takeMinute_2 ⟨Nat.le_of_ble_eq_true rfl, Nat.le_of_ble_eq_true rfl⟩) (fun wl5 hp1 H locs hq4 hw hS => ?_)
  obtain ⟨ok2, F3⟩ := hq4
  have hw : PW G cy K ln Ls A hp1 H := hw
  refine lv_l2i hx hb dX5_takeMinute_5 rfl (lv_topi (fun zi6 ea7 => ?_))
  refine lv_istore_n (lv' := [(1, .int zi6), (0, .ref qa900)]) hx hb dX5_takeMinute_6 rfl hl (by decide) rfl (fun ls hl => ?_)
  refine lv_iload_n hx hb dX5_takeMinute_7 rfl (lv_at hl 0 rfl) ?_
  refine lv_sipush (v := 2879) hx hb dX5_takeMinute_8 (by decide) ?_
  have jn19 : ∀ (hp16 : Nat → Nat → Value)  (H : Heap) (locs : List Loc) (ls : Array Slot), Ok K hp16 → Fr [6005, 6006] K hp1 hp16 → lv_has ls 2 [(1, .int zi6)] → PW G cy K ln Ls A hp16 H → va_S A s.heap H locs → W p l e ({ frames := 2, cells := 0, slots := 0, locals := 42 } : Room) s m ([.ref qa900] : List Value).toArray below meth c H locs 0 0 Q (F0 m 19 ls []) := by
    intro hp16 H locs ls ok18 F17 hl hw hS
    refine lv_iload_n hx hb dX5_takeMinute_19 rfl (lv_at hl 0 rfl) ?_
    rw [hQ]
    exact kz_i hx hb hr hlocks hS rfl hp16 hw ⟨ok18, (Fr.tr (Fr.tr (Fr.rf) F3 (by decide)) F17 (by decide))⟩ (Nat.le_of_ble_eq_true rfl) (Nat.le_of_ble_eq_true rfl) dX5_takeMinute_20
  refine lv_icmp_le (tgt := 19) hx hb dX5_takeMinute_11 (by decide) (fun cn8 => ?_) (fun cn8 => ?_)
  · skip
    have bd20 : (-2147483648 : Int) ≤ zi6.toInt ∧ zi6.toInt ≤ 2879 := r_le_x cn8 (b_all zi6) bc_2879 (by decide) (by decide)
    exact jn19 hp1 _ _ ls ok2 (Fr.rf) (lv_sub hl [0] rfl) hw hS
  · skip
    have bd21 : (2880 : Int) ≤ zi6.toInt ∧ zi6.toInt ≤ 2147483647 := r_lt_y (Int32.not_le.mp cn8) bc_2879 (b_all zi6) (by decide) (by decide)
    refine lv_aload_n hx hb dX5_takeMinute_14 rfl (lv_at hl 1 rfl) ?_
    refine lv_iconst (v := 5) hx hb dX5_takeMinute_15 (by decide) ?_
    refine kq_v hw hS hA (va_runV (As := [.int 5]) (rest := []) ⟨hx, hb, hml, hown, hT⟩ (cX5_failSoftly_0 l G cy ev K ln Ls hW _ hp1 ok2 qa900 5 kd900) (cwV 1 hT (good_V tb_881 tb_878 tb_880 tb_11 tb_109) rfl rfl rfl (by decide +kernel) ⟨Nat.le_of_ble_eq_true rfl, Nat.le_of_ble_eq_true rfl⟩) (pool_preV (ci := 5) hK hE hS hA hw hW kd900 (by decide) rfl) rfl rfl hl.1 rfl (lv_room (Nat.le_of_ble_eq_true rfl)) dX5_takeMinute_16 ⟨Nat.le_of_ble_eq_true rfl, Nat.le_of_ble_eq_true rfl⟩) (fun hp22 H locs hq25 hw hS => ?_)
    obtain ⟨ok23, F24⟩ := hq25
    have hw : PW G cy K ln Ls A hp22 H := hw
    exact jn19 hp22 _ _ ls ok23 (Fr.tr (Fr.rf) F24 (by decide)) (lv_sub hl [0] rfl) hw hS

set_option maxRecDepth 100000 in
set_option maxHeartbeats 4000000 in
theorem cX5_tellCase_0 (l : Launch) (G : va_G) (cy : Nat → ClassId) (ev : Ew) (K ln : Nat → Nat) (Ls : List Nat) (hW : SW K ln Ls) (sz : Nat) (hp0 : Nat → Nat → Value) (ok0 : Ok K hp0) (qa900 : Nat) (kd900 : K qa900 = 6) : Met l yX5_tellCase (WS yX5_tellCase cX5_tellCase 6 none) { frames := 23, cells := 0, slots := 0, locals := 557 } (PB2 [.ref qa900] sz G cy ev (va_pl Ls (cellOf cy K ln hp0))) (QBv (S := (Nat → Nat → Value)) (fun u : (Nat → Nat → Value) => Ok K u ∧ Fr [6002, 6003, 6004, 6005, 6006, 11007, 53000, 54000, 55000] K hp0 u) G (fun u => va_pl Ls (cellOf cy K ln u)) (va_A (va_pl Ls (cellOf cy K ln hp0)) sz)) 0 0 (va_A (va_pl Ls (cellOf cy K ln hp0)) sz) := by
  refine met_of2 (y := yX5_tellCase) (L := 6) (av := [.ref qa900]) (Qc := fun A => QBv (S := (Nat → Nat → Value)) (fun u : (Nat → Nat → Value) => Ok K u ∧ Fr [6002, 6003, 6004, 6005, 6006, 11007, 53000, 54000, 55000] K hp0 u) G (fun u => va_pl Ls (cellOf cy K ln u)) A) (plainFor_of_name (by decide)) (Nat.le_of_ble_eq_true rfl) ?_
  intro p e s m below meth c hsz hx hb hr hml hown hT hlocks hin hK A hA hE hw hS ls hl
  have hw : PW G cy K ln Ls A hp0 s.heap := hw
  have hown : s.vm.findClass "LieClock$Parser" = some m.cls := hown
  have hl : lv_has ls 6 [(0, .ref qa900)] := hl
  obtain ⟨Q, hQ⟩ : ∃ Q : State → Prop, Q = MQ below (QBv (S := (Nat → Nat → Value)) (fun u : (Nat → Nat → Value) => Ok K u ∧ Fr [6002, 6003, 6004, 6005, 6006, 11007, 53000, 54000, 55000] K hp0 u) G (fun u => va_pl Ls (cellOf cy K ln u)) A) ([.ref qa900] : List Value).toArray s 0 0 A := ⟨_, rfl⟩
  rw [← hQ]
  refine lv_aload_n hx hb dX5_tellCase_0 rfl (lv_at hl 0 rfl) ?_
  refine lv_aload_n hx hb dX5_tellCase_1 rfl (lv_at hl 0 rfl) ?_
  obtain ⟨qa2, eq1, kd3⟩ := rd_6001 ok0 kd900
  refine p_get (ci := 5) (v := .ref qa2) (C := RX5) (T := TX5) (N := 7) hx hb hT iw_X5 hown hK hw hW kd900 (by decide) rfl rfl 1 (by decide) eq1 (hT _ tb_372) (fun _ h9 => h9) dX5_tellCase_2 ?_
  obtain ⟨zi5, eq4, bd6⟩ := rd_11007 ok0 kd3
  refine p_getN (ci := 10) (v := .int zi5) (C := RX10) (T := TX10) (N := 20) hx hb hT iw_X10 hown hK hw hW kd3 (by decide) rfl rfl 7 (by decide) eq4 (hK.fl nw_110) (fun _ h9 => h9) dX5_tellCase_5 ?_
  refine lv_bipush (v := 8) hx hb dX5_tellCase_8 (by decide) ?_
  refine kq_v hw hS hA (va_runV (As := [.int zi5, .int 8]) (rest := []) ⟨hx, hb, hml, hown, hT⟩ (cX5_begin_0 l G cy ev K ln Ls hW _ hp0 ok0 qa900 zi5 8 kd900) (cwV 2 hT (good_V tb_846 tb_843 tb_845 tb_6 tb_109) rfl rfl rfl (by decide +kernel) ⟨Nat.le_of_ble_eq_true rfl, Nat.le_of_ble_eq_true rfl⟩) (pool_preV (ci := 5) hK hE hS hA hw hW kd900 (by decide) rfl) rfl rfl hl.1 rfl (lv_room (Nat.le_of_ble_eq_true rfl)) dX5_tellCase_10 ⟨Nat.le_of_ble_eq_true rfl, Nat.le_of_ble_eq_true rfl⟩) (fun hp7 H locs hq10 hw hS => ?_)
  obtain ⟨ok8, F9⟩ := hq10
  have hw : PW G cy K ln Ls A hp7 H := hw
  refine lv_aload_n hx hb dX5_tellCase_13 rfl (lv_at hl 0 rfl) ?_
  refine kq_l hw hS hA (va_runV (As := []) (rest := []) ⟨hx, hb, hml, hown, hT⟩ (cX5_takeNewName_0 l G cy ev K ln Ls hW _ hp7 ok8 qa900 kd900) (cwV 0 hT (good_V tb_858 tb_855 tb_857 tb_9 tb_109) rfl rfl rfl (by decide +kernel) ⟨Nat.le_of_ble_eq_true rfl, Nat.le_of_ble_eq_true rfl⟩) (pool_preV (ci := 5) hK hE hS hA hw hW kd900 (by decide) rfl) rfl rfl hl.1 rfl (lv_room (Nat.le_of_ble_eq_true rfl)) dX5_tellCase_14 ⟨Nat.le_of_ble_eq_true rfl, Nat.le_of_ble_eq_true rfl⟩) (fun wl16 hp12 H locs hq15 hw hS => ?_)
  obtain ⟨ok13, F14⟩ := hq15
  have hw : PW G cy K ln Ls A hp12 H := hw
  refine lv_lstore_n (lv' := [(1, .long wl16), (0, .ref qa900)]) hx hb dX5_tellCase_17 rfl hl (by decide) rfl (fun ls hl => ?_)
  refine lv_aload_n hx hb dX5_tellCase_18 rfl (lv_at hl 1 rfl) ?_
  refine kq_i hw hS hA (va_runV (As := []) (rest := []) ⟨hx, hb, hml, hown, hT⟩ (cX5_takeMinute_0 l G cy ev K ln Ls hW _ hp12 ok13 qa900 kd900) (cwV 0 hT (good_V tb_938 tb_935 tb_937 tb_20 tb_109) rfl rfl rfl (by decide +kernel) ⟨Nat.le_of_ble_eq_true rfl, Nat.le_of_ble_eq_true rfl⟩) (pool_preV (ci := 5) hK hE hS hA hw hW kd900 (by decide) rfl) rfl rfl hl.1 rfl (lv_room (Nat.le_of_ble_eq_true rfl)) dX5_tellCase_19 ⟨Nat.le_of_ble_eq_true rfl, Nat.le_of_ble_eq_true rfl⟩) (fun zi21 hp17 H locs hq20 hw hS => ?_)
  obtain ⟨ok18, F19⟩ := hq20
  have hw : PW G cy K ln Ls A hp17 H := hw
  refine lv_istore_n (lv' := [(3, .int zi21), (1, .long wl16), (0, .ref qa900)]) hx hb dX5_tellCase_22 rfl hl (by decide) rfl (fun ls hl => ?_)
  refine lv_aload_n hx hb dX5_tellCase_23 rfl (lv_at hl 2 rfl) ?_
  refine lv_bipush (v := 61) hx hb dX5_tellCase_24 (by decide) ?_
  refine kq_v hw hS hA (va_runV (As := [.int 61]) (rest := []) ⟨hx, hb, hml, hown, hT⟩ (cX5_expect_0 l G cy ev K ln Ls hW _ hp17 ok18 qa900 61 kd900) (cwV 1 hT (good_V tb_889 tb_886 tb_888 tb_12 tb_109) rfl rfl rfl (by decide +kernel) ⟨Nat.le_of_ble_eq_true rfl, Nat.le_of_ble_eq_true rfl⟩) (pool_preV (ci := 5) hK hE hS hA hw hW kd900 (by decide) rfl) rfl rfl hl.1 rfl (lv_room (Nat.le_of_ble_eq_true rfl)) dX5_tellCase_26 ⟨Nat.le_of_ble_eq_true rfl, Nat.le_of_ble_eq_true rfl⟩) (fun hp22 H locs hq25 hw hS => ?_)
  obtain ⟨ok23, F24⟩ := hq25
  have hw : PW G cy K ln Ls A hp22 H := hw
  refine lv_aload_n hx hb dX5_tellCase_29 rfl (lv_at hl 2 rfl) ?_
  refine lv_iconst (v := 0) hx hb dX5_tellCase_30 (by decide) ?_
  refine kq_l hw hS hA (va_runV (As := [.int 0]) (rest := []) ⟨hx, hb, hml, hown, hT⟩ (cX5_cond_6 l G cy ev K ln Ls hW _ hp22 ok23 qa900 0 kd900 (b_wid2 bc_0 (by decide) (by decide))) (cwV 1 hT (good_V tb_910 tb_907 tb_909 tb_15 tb_109) rfl rfl rfl (by decide +kernel) ⟨Nat.le_of_ble_eq_true rfl, Nat.le_of_ble_eq_true rfl⟩) (pool_preV (ci := 5) hK hE hS hA hw hW kd900 (by decide) rfl) rfl rfl hl.1 rfl (lv_room (Nat.le_of_ble_eq_true rfl)) dX5_tellCase_31 ⟨Nat.le_of_ble_eq_true rfl, Nat.le_of_ble_eq_true rfl⟩) (fun wl31 hp27 H locs hq30 hw hS => ?_)
  obtain ⟨ok28, F29⟩ := hq30
  have hw : PW G cy K ln Ls A hp27 H := hw
  refine lv_lstore (lv' := [(4, .long wl31), (3, .int zi21), (1, .long wl16), (0, .ref qa900)]) hx hb dX5_tellCase_34 hl (by decide) rfl (fun ls hl => ?_)
  refine lv_aload_n hx hb dX5_tellCase_36 rfl (lv_at hl 3 rfl) ?_
  refine lv_bipush (v := 59) hx hb dX5_tellCase_37 (by decide) ?_
  refine kq_v hw hS hA (va_runV (As := [.int 59]) (rest := []) ⟨hx, hb, hml, hown, hT⟩ (cX5_expect_0 l G cy ev K ln Ls hW _ hp27 ok28 qa900 59 kd900) (cwV 1 hT (good_V tb_889 tb_886 tb_888 tb_12 tb_109) rfl rfl rfl (by decide +kernel) ⟨Nat.le_of_ble_eq_true rfl, Nat.le_of_ble_eq_true rfl⟩) (pool_preV (ci := 5) hK hE hS hA hw hW kd900 (by decide) rfl) rfl rfl hl.1 rfl (lv_room (Nat.le_of_ble_eq_true rfl)) dX5_tellCase_39 ⟨Nat.le_of_ble_eq_true rfl, Nat.le_of_ble_eq_true rfl⟩) (fun hp32 H locs hq35 hw hS => ?_)
  obtain ⟨ok33, F34⟩ := hq35
  have hw : PW G cy K ln Ls A hp32 H := hw
  refine lv_aload_n hx hb dX5_tellCase_42 rfl (lv_at hl 3 rfl) ?_
  obtain ⟨zi38, eq37, bd39⟩ := rd_6004 ok33 kd900
  refine p_get (ci := 5) (v := .int zi38) (C := RX5) (T := TX5) (N := 7) hx hb hT iw_X5 hown hK hw hW kd900 (by decide) rfl rfl 4 (by decide) eq37 (hT _ tb_375) (fun _ h9 => h9) dX5_tellCase_43 ?_
  refine lv_if_ne (tgt := 60) hx hb dX5_tellCase_46 (by decide) (fun cn40 => ?_) (fun cn40 => ?_)
  · skip
    have bd41 : (1 : Int) ≤ zi38.toInt ∧ zi38.toInt ≤ 2 := r_ne_lo cn40 bd39 (toi bc_0) (by decide) (by decide)
    rw [hQ]
    exact kz_v hx hb hr hlocks hS hp32 hw ⟨ok33, (Fr.tr (Fr.tr (Fr.tr (Fr.tr (Fr.tr (Fr.tr (Fr.rf) F9 (by decide)) F14 (by decide)) F19 (by decide)) F24 (by decide)) F29 (by decide)) F34 (by decide))⟩ (Nat.le_of_ble_eq_true rfl) (Nat.le_of_ble_eq_true rfl) dX5_tellCase_60
  · skip
    have bd42 : (0 : Int) ≤ zi38.toInt ∧ zi38.toInt ≤ 0 := r_eq_x cn40 bd39 bc_0 (by decide) (by decide)
    refine lv_aload_n hx hb dX5_tellCase_49 rfl (lv_at hl 3 rfl) ?_
    have eq43 : hp32 qa900 1 = .ref qa2 := Eq.trans (Fr.at (cq := 6001) F34 kd900 (cd_o (by decide)) (by decide)) (Eq.trans (Fr.at (cq := 6001) F29 kd900 (cd_o (by decide)) (by decide)) (Eq.trans (Fr.at (cq := 6001) F24 kd900 (cd_o (by decide)) (by decide)) (Eq.trans (Fr.at (cq := 6001) F19 kd900 (cd_o (by decide)) (by decide)) (Eq.trans (Fr.at (cq := 6001) F14 kd900 (cd_o (by decide)) (by decide)) (Eq.trans (Fr.at (cq := 6001) F9 kd900 (cd_o (by decide)) (by decide)) eq1)))))
    refine p_get (ci := 5) (v := .ref qa2) (C := RX5) (T := TX5) (N := 7) hx hb hT iw_X5 hown hK hw hW kd900 (by decide) rfl rfl 1 (by decide) eq43 (hT _ tb_372) (fun _ h9 => h9) dX5_tellCase_50 ?_
    refine lv_lload_n hx hb dX5_tellCase_53 rfl (lv_at hl 2 rfl) ?_
    refine lv_iload_n hx hb dX5_tellCase_54 rfl (lv_at hl 1 rfl) ?_
    refine lv_lload hx hb dX5_tellCase_55 (lv_at hl 0 rfl) ?_
    refine kq_v hw hS hA (va_runV (As := [.long wl16, .int zi21, .long wl31]) (rest := []) ⟨hx, hb, hml, hown, hT⟩ (cX10_addCase_0 l G cy ev K ln Ls hW _ hp32 ok33 qa2 wl16 zi21 wl31 kd3) (cwV 3 hT (good_V tb_942 tb_939 tb_940 tb_941 tb_107) rfl rfl rfl (by decide +kernel) ⟨Nat.le_of_ble_eq_true rfl, Nat.le_of_ble_eq_true rfl⟩) (pool_preV (ci := 10) hK hE hS hA hw hW kd3 (by decide) rfl) rfl rfl hl.1 rfl (lv_room (Nat.le_of_ble_eq_true rfl)) dX5_tellCase_57 ⟨Nat.le_of_ble_eq_true rfl, Nat.le_of_ble_eq_true rfl⟩) (fun hp44 H locs hq47 hw hS => ?_)
    obtain ⟨ok45, F46⟩ := hq47
    have hw : PW G cy K ln Ls A hp44 H := hw
    rw [hQ]
    exact kz_v hx hb hr hlocks hS hp44 hw ⟨ok45, (Fr.tr (Fr.tr (Fr.tr (Fr.tr (Fr.tr (Fr.tr (Fr.tr (Fr.rf) F9 (by decide)) F14 (by decide)) F19 (by decide)) F24 (by decide)) F29 (by decide)) F34 (by decide)) F46 (by decide))⟩ (Nat.le_of_ble_eq_true rfl) (Nat.le_of_ble_eq_true rfl) dX5_tellCase_60

set_option maxRecDepth 100000 in
set_option maxHeartbeats 4000000 in
theorem cX5_unit_0 (l : Launch) (G : va_G) (cy : Nat → ClassId) (ev : Ew) (K ln : Nat → Nat) (Ls : List Nat) (hW : SW K ln Ls) (sz : Nat) (hp0 : Nat → Nat → Value) (ok0 : Ok K hp0) (qa900 : Nat) (qa901 : Nat) (zi902 : Int32) (kd900 : K qa900 = 6) (kd901 : K qa901 = 3) (bd902 : ((6 : Int) ≤ zi902.toInt ∧ zi902.toInt ≤ 6)) : Met l yX5_unit (WS yX5_unit cX5_unit 4 none) { frames := 2, cells := 0, slots := 0, locals := 42 } (PB2 [.ref qa900, .ref qa901, .int zi902] sz G cy ev (va_pl Ls (cellOf cy K ln hp0))) (QBv (S := (Nat → Nat → Value)) (fun u : (Nat → Nat → Value) => Ok K u ∧ Fr [3002, 6002, 6003, 6004, 26000] K hp0 u) G (fun u => va_pl Ls (cellOf cy K ln u)) (va_A (va_pl Ls (cellOf cy K ln hp0)) sz)) 0 0 (va_A (va_pl Ls (cellOf cy K ln hp0)) sz) := by
  refine met_of2 (y := yX5_unit) (L := 4) (av := [.ref qa900, .ref qa901, .int zi902]) (Qc := fun A => QBv (S := (Nat → Nat → Value)) (fun u : (Nat → Nat → Value) => Ok K u ∧ Fr [3002, 6002, 6003, 6004, 26000] K hp0 u) G (fun u => va_pl Ls (cellOf cy K ln u)) A) (plainFor_of_name (by decide)) (Nat.le_of_ble_eq_true rfl) ?_
  intro p e s m below meth c hsz hx hb hr hml hown hT hlocks hin hK A hA hE hw hS ls hl
  have hw : PW G cy K ln Ls A hp0 s.heap := hw
  have hown : s.vm.findClass "LieClock$Parser" = some m.cls := hown
  have hl : lv_has ls 4 [(0, .ref qa900), (1, .ref qa901), (2, .int zi902)] := hl
  obtain ⟨Q, hQ⟩ : ∃ Q : State → Prop, Q = MQ below (QBv (S := (Nat → Nat → Value)) (fun u : (Nat → Nat → Value) => Ok K u ∧ Fr [3002, 6002, 6003, 6004, 26000] K hp0 u) G (fun u => va_pl Ls (cellOf cy K ln u)) A) ([.ref qa900, .ref qa901, .int zi902] : List Value).toArray s 0 0 A := ⟨_, rfl⟩
  rw [← hQ]
  refine lv_aload_n hx hb dX5_unit_0 rfl (lv_at hl 0 rfl) ?_
  obtain ⟨zi2, eq1⟩ := rd_6003 ok0 kd900
  refine p_get (ci := 5) (v := .int zi2) (C := RX5) (T := TX5) (N := 7) hx hb hT iw_X5 hown hK hw hW kd900 (by decide) rfl rfl 3 (by decide) eq1 (hT _ tb_374) (fun _ h9 => h9) dX5_unit_1 ?_
  refine lv_istore_n (lv' := [(3, .int zi2), (0, .ref qa900), (1, .ref qa901), (2, .int zi902)]) hx hb dX5_unit_4 rfl hl (by decide) rfl (fun ls hl => ?_)
  refine lv_iload_n hx hb dX5_unit_5 rfl (lv_at hl 0 rfl) ?_
  refine lv_bipush (v := 40) hx hb dX5_unit_6 (by decide) ?_
  refine lv_icmp_ne (tgt := 36) hx hb dX5_unit_8 (by decide) (fun cn3 => ?_) (fun cn3 => ?_)
  · skip
    refine lv_iload_n hx hb dX5_unit_36 rfl (lv_at hl 0 rfl) ?_
    refine lv_bipush (v := 103) hx hb dX5_unit_37 (by decide) ?_
    refine lv_icmp_eq (tgt := 54) hx hb dX5_unit_39 (by decide) (fun cn4 => ?_) (fun cn4 => ?_)
    · skip
      have bd5 : (103 : Int) ≤ zi2.toInt ∧ zi2.toInt ≤ 103 := r_eq_x cn4 (b_all zi2) bc_103 (by decide) (by decide)
      refine lv_aload_n hx hb dX5_unit_54 rfl (lv_at hl 1 rfl) ?_
      refine lv_iload_n hx hb dX5_unit_55 rfl (lv_at hl 0 rfl) ?_
      refine kq_i hw hS hA (va_runV (As := [.int zi2]) (rest := []) ⟨hx, hb, hml, hown, hT⟩ (cX5_accept_0 l G cy ev K ln Ls hW _ hp0 ok0 qa900 zi2 kd900) (cwV 1 hT (good_V tb_854 tb_851 tb_853 tb_8 tb_109) rfl rfl rfl (by decide +kernel) ⟨Nat.le_of_ble_eq_true rfl, Nat.le_of_ble_eq_true rfl⟩) (pool_preV (ci := 5) hK hE hS hA hw hW kd900 (by decide) rfl) rfl rfl hl.1 rfl (lv_room (Nat.le_of_ble_eq_true rfl)) dX5_unit_56 ⟨Nat.le_of_ble_eq_true rfl, Nat.le_of_ble_eq_true rfl⟩) (fun zi10 hp6 H locs hq9 hw hS => ?_)
      obtain ⟨ok7, F8, bd11, hc12, hc13⟩ := hq9
      have hw : PW G cy K ln Ls A hp6 H := hw
      refine lv_pop hx hb dX5_unit_59 rfl ?_
      refine lv_aload_n hx hb dX5_unit_60 rfl (lv_at hl 2 rfl) ?_
      refine lv_iload_n hx hb dX5_unit_61 rfl (lv_at hl 0 rfl) ?_
      refine lv_ineg hx hb dX5_unit_62 (lv_topi (fun zi14 ea15 => ?_))
      refine kq_v hw hS hA (va_runV (As := [.int zi14]) (rest := []) ⟨hx, hb, hml, hown, hT⟩ (cX2_add_0 l G cy ev K ln Ls hW _ hp6 ok7 qa901 zi14 kd901) (cwV 1 hT (good_V tb_404 tb_960 tb_402 tb_403 tb_108) rfl rfl rfl (by decide +kernel) ⟨Nat.le_of_ble_eq_true rfl, Nat.le_of_ble_eq_true rfl⟩) (pool_preV (ci := 2) hK hE hS hA hw hW kd901 (by decide) rfl) rfl rfl hl.1 rfl (lv_room (Nat.le_of_ble_eq_true rfl)) dX5_unit_63 ⟨Nat.le_of_ble_eq_true rfl, Nat.le_of_ble_eq_true rfl⟩) (fun hp16 H locs hq19 hw hS => ?_)
      obtain ⟨ok17, F18⟩ := hq19
      have hw : PW G cy K ln Ls A hp16 H := hw
      refine lv_goto (tgt := 79) hx hb dX5_unit_66 (by decide) ?_
      rw [hQ]
      exact kz_v hx hb hr hlocks hS hp16 hw ⟨ok17, (Fr.tr (Fr.tr (Fr.rf) F8 (by decide)) F18 (by decide))⟩ (Nat.le_of_ble_eq_true rfl) (Nat.le_of_ble_eq_true rfl) dX5_unit_79
    · skip
      refine lv_iload_n hx hb dX5_unit_42 rfl (lv_at hl 0 rfl) ?_
      refine lv_bipush (v := 114) hx hb dX5_unit_43 (by decide) ?_
      refine lv_icmp_lt (tgt := 69) hx hb dX5_unit_45 (by decide) (fun cn21 => ?_) (fun cn21 => ?_)
      · skip
        have bd22 : (-2147483648 : Int) ≤ zi2.toInt ∧ zi2.toInt ≤ 113 := r_lt_x cn21 (b_all zi2) bc_114 (by decide) (by decide)
        refine lv_aload_n hx hb dX5_unit_69 rfl (lv_at hl 2 rfl) ?_
        refine lv_aload_n hx hb dX5_unit_70 rfl (lv_at hl 1 rfl) ?_
        refine lv_iconst (v := 3) hx hb dX5_unit_71 (by decide) ?_
        refine kq_l hw hS hA (va_runV (As := [.int 3]) (rest := [.ref qa901]) ⟨hx, hb, hml, hown, hT⟩ (cX5_take_0 l G cy ev K ln Ls hW _ hp0 ok0 qa900 3 kd900) (cwV 1 hT (good_V tb_862 tb_859 tb_861 tb_10 tb_109) rfl rfl rfl (by decide +kernel) ⟨Nat.le_of_ble_eq_true rfl, Nat.le_of_ble_eq_true rfl⟩) (pool_preV (ci := 5) hK hE hS hA hw hW kd900 (by decide) rfl) rfl rfl hl.1 rfl (lv_room (Nat.le_of_ble_eq_true rfl)) dX5_unit_72 ⟨Nat.le_of_ble_eq_true rfl, Nat.le_of_ble_eq_true rfl⟩) (fun wl27 hp23 H locs hq26 hw hS => ?_)
        obtain ⟨ok24, F25⟩ := hq26
        have hw : PW G cy K ln Ls A hp23 H := hw
        refine lv_l2i hx hb dX5_unit_75 rfl (lv_topi (fun zi28 ea29 => ?_))
        refine kq_v hw hS hA (va_runV (As := [.int zi28]) (rest := []) ⟨hx, hb, hml, hown, hT⟩ (cX2_add_0 l G cy ev K ln Ls hW _ hp23 ok24 qa901 zi28 kd901) (cwV 1 hT (good_V tb_404 tb_960 tb_402 tb_403 tb_108) rfl rfl rfl (by decide +kernel) ⟨Nat.le_of_ble_eq_true rfl, Nat.le_of_ble_eq_true rfl⟩) (pool_preV (ci := 2) hK hE hS hA hw hW kd901 (by decide) rfl) rfl rfl hl.1 rfl (lv_room (Nat.le_of_ble_eq_true rfl)) dX5_unit_76 ⟨Nat.le_of_ble_eq_true rfl, Nat.le_of_ble_eq_true rfl⟩) (fun hp30 H locs hq33 hw hS => ?_)
        obtain ⟨ok31, F32⟩ := hq33
        have hw : PW G cy K ln Ls A hp30 H := hw
        rw [hQ]
        exact kz_v hx hb hr hlocks hS hp30 hw ⟨ok31, (Fr.tr (Fr.tr (Fr.rf) F25 (by decide)) F32 (by decide))⟩ (Nat.le_of_ble_eq_true rfl) (Nat.le_of_ble_eq_true rfl) dX5_unit_79
      · skip
        have bd35 : (114 : Int) ≤ zi2.toInt ∧ zi2.toInt ≤ 2147483647 := r_le_y (Int32.not_lt.mp cn21) bc_114 (b_all zi2) (by decide) (by decide)
        refine lv_iload_n hx hb dX5_unit_48 rfl (lv_at hl 0 rfl) ?_
        refine lv_bipush (v := 117) hx hb dX5_unit_49 (by decide) ?_
        refine lv_icmp_gt (tgt := 69) hx hb dX5_unit_51 (by decide) (fun cn36 => ?_) (fun cn36 => ?_)
        · skip
          have bd37 : (118 : Int) ≤ zi2.toInt ∧ zi2.toInt ≤ 2147483647 := r_lt_y cn36 bc_117 bd35 (by decide) (by decide)
          refine lv_aload_n hx hb dX5_unit_69 rfl (lv_at hl 2 rfl) ?_
          refine lv_aload_n hx hb dX5_unit_70 rfl (lv_at hl 1 rfl) ?_
          refine lv_iconst (v := 3) hx hb dX5_unit_71 (by decide) ?_
          refine kq_l hw hS hA (va_runV (As := [.int 3]) (rest := [.ref qa901]) ⟨hx, hb, hml, hown, hT⟩ (cX5_take_0 l G cy ev K ln Ls hW _ hp0 ok0 qa900 3 kd900) (cwV 1 hT (good_V tb_862 tb_859 tb_861 tb_10 tb_109) rfl rfl rfl (by decide +kernel) ⟨Nat.le_of_ble_eq_true rfl, Nat.le_of_ble_eq_true rfl⟩) (pool_preV (ci := 5) hK hE hS hA hw hW kd900 (by decide) rfl) rfl rfl hl.1 rfl (lv_room (Nat.le_of_ble_eq_true rfl)) dX5_unit_72 ⟨Nat.le_of_ble_eq_true rfl, Nat.le_of_ble_eq_true rfl⟩) (fun wl42 hp38 H locs hq41 hw hS => ?_)
          obtain ⟨ok39, F40⟩ := hq41
          have hw : PW G cy K ln Ls A hp38 H := hw
          refine lv_l2i hx hb dX5_unit_75 rfl (lv_topi (fun zi43 ea44 => ?_))
          refine kq_v hw hS hA (va_runV (As := [.int zi43]) (rest := []) ⟨hx, hb, hml, hown, hT⟩ (cX2_add_0 l G cy ev K ln Ls hW _ hp38 ok39 qa901 zi43 kd901) (cwV 1 hT (good_V tb_404 tb_960 tb_402 tb_403 tb_108) rfl rfl rfl (by decide +kernel) ⟨Nat.le_of_ble_eq_true rfl, Nat.le_of_ble_eq_true rfl⟩) (pool_preV (ci := 2) hK hE hS hA hw hW kd901 (by decide) rfl) rfl rfl hl.1 rfl (lv_room (Nat.le_of_ble_eq_true rfl)) dX5_unit_76 ⟨Nat.le_of_ble_eq_true rfl, Nat.le_of_ble_eq_true rfl⟩) (fun hp45 H locs hq48 hw hS => ?_)
          obtain ⟨ok46, F47⟩ := hq48
          have hw : PW G cy K ln Ls A hp45 H := hw
          rw [hQ]
          exact kz_v hx hb hr hlocks hS hp45 hw ⟨ok46, (Fr.tr (Fr.tr (Fr.rf) F40 (by decide)) F47 (by decide))⟩ (Nat.le_of_ble_eq_true rfl) (Nat.le_of_ble_eq_true rfl) dX5_unit_79
        · skip
          have bd50 : (114 : Int) ≤ zi2.toInt ∧ zi2.toInt ≤ 117 := r_le_x (Int32.not_lt.mp cn36) bd35 bc_117 (by decide) (by decide)
          refine lv_aload_n hx hb dX5_unit_54 rfl (lv_at hl 1 rfl) ?_
          refine lv_iload_n hx hb dX5_unit_55 rfl (lv_at hl 0 rfl) ?_
          refine kq_i hw hS hA (va_runV (As := [.int zi2]) (rest := []) ⟨hx, hb, hml, hown, hT⟩ (cX5_accept_0 l G cy ev K ln Ls hW _ hp0 ok0 qa900 zi2 kd900) (cwV 1 hT (good_V tb_854 tb_851 tb_853 tb_8 tb_109) rfl rfl rfl (by decide +kernel) ⟨Nat.le_of_ble_eq_true rfl, Nat.le_of_ble_eq_true rfl⟩) (pool_preV (ci := 5) hK hE hS hA hw hW kd900 (by decide) rfl) rfl rfl hl.1 rfl (lv_room (Nat.le_of_ble_eq_true rfl)) dX5_unit_56 ⟨Nat.le_of_ble_eq_true rfl, Nat.le_of_ble_eq_true rfl⟩) (fun zi55 hp51 H locs hq54 hw hS => ?_)
          obtain ⟨ok52, F53, bd56, hc57, hc58⟩ := hq54
          have hw : PW G cy K ln Ls A hp51 H := hw
          refine lv_pop hx hb dX5_unit_59 rfl ?_
          refine lv_aload_n hx hb dX5_unit_60 rfl (lv_at hl 2 rfl) ?_
          refine lv_iload_n hx hb dX5_unit_61 rfl (lv_at hl 0 rfl) ?_
          refine lv_ineg hx hb dX5_unit_62 (lv_topi (fun zi59 ea60 => ?_))
          refine kq_v hw hS hA (va_runV (As := [.int zi59]) (rest := []) ⟨hx, hb, hml, hown, hT⟩ (cX2_add_0 l G cy ev K ln Ls hW _ hp51 ok52 qa901 zi59 kd901) (cwV 1 hT (good_V tb_404 tb_960 tb_402 tb_403 tb_108) rfl rfl rfl (by decide +kernel) ⟨Nat.le_of_ble_eq_true rfl, Nat.le_of_ble_eq_true rfl⟩) (pool_preV (ci := 2) hK hE hS hA hw hW kd901 (by decide) rfl) rfl rfl hl.1 rfl (lv_room (Nat.le_of_ble_eq_true rfl)) dX5_unit_63 ⟨Nat.le_of_ble_eq_true rfl, Nat.le_of_ble_eq_true rfl⟩) (fun hp61 H locs hq64 hw hS => ?_)
          obtain ⟨ok62, F63⟩ := hq64
          have hw : PW G cy K ln Ls A hp61 H := hw
          refine lv_goto (tgt := 79) hx hb dX5_unit_66 (by decide) ?_
          rw [hQ]
          exact kz_v hx hb hr hlocks hS hp61 hw ⟨ok62, (Fr.tr (Fr.tr (Fr.rf) F53 (by decide)) F63 (by decide))⟩ (Nat.le_of_ble_eq_true rfl) (Nat.le_of_ble_eq_true rfl) dX5_unit_79
  · skip
    have bd66 : (40 : Int) ≤ zi2.toInt ∧ zi2.toInt ≤ 40 := r_eq_x cn3 (b_all zi2) bc_40 (by decide) (by decide)
    refine lv_aload_n hx hb dX5_unit_11 rfl (lv_at hl 1 rfl) ?_
    refine lv_iload_n hx hb dX5_unit_12 rfl (lv_at hl 3 rfl) ?_
    refine kq_i hw hS hA (va_runV (As := [.int zi902]) (rest := []) ⟨hx, hb, hml, hown, hT⟩ (cX5_enter_6 l G cy ev K ln Ls hW _ hp0 ok0 qa900 zi902 kd900 (b_wid2 bd902 (by decide) (by decide))) (cwV 1 hT (good_V tb_922 tb_919 tb_921 tb_18 tb_109) rfl rfl rfl (by decide +kernel) ⟨Nat.le_of_ble_eq_true rfl, Nat.le_of_ble_eq_true rfl⟩) (pool_preV (ci := 5) hK hE hS hA hw hW kd900 (by decide) rfl) rfl rfl hl.1 rfl (lv_room (Nat.le_of_ble_eq_true rfl)) dX5_unit_13 ⟨Nat.le_of_ble_eq_true rfl, Nat.le_of_ble_eq_true rfl⟩) (fun zi71 hp67 H locs hq70 hw hS => ?_)
    obtain ⟨ok68, F69, bd72, ⟨zi73, eq74, bd75⟩⟩ := hq70
    have hw : PW G cy K ln Ls A hp67 H := hw
    refine lv_if_eq (tgt := 27) hx hb dX5_unit_16 (by decide) (fun _ => ?_) (fun c => absurd (d_eq bd72 bc_0) c)
    refine lv_aload_n hx hb dX5_unit_27 rfl (lv_at hl 1 rfl) ?_
    refine lv_bipush (v := 41) hx hb dX5_unit_28 (by decide) ?_
    refine kq_v hw hS hA (va_runV (As := [.int 41]) (rest := []) ⟨hx, hb, hml, hown, hT⟩ (cX5_expect_0 l G cy ev K ln Ls hW _ hp67 ok68 qa900 41 kd900) (cwV 1 hT (good_V tb_889 tb_886 tb_888 tb_12 tb_109) rfl rfl rfl (by decide +kernel) ⟨Nat.le_of_ble_eq_true rfl, Nat.le_of_ble_eq_true rfl⟩) (pool_preV (ci := 5) hK hE hS hA hw hW kd900 (by decide) rfl) rfl rfl hl.1 rfl (lv_room (Nat.le_of_ble_eq_true rfl)) dX5_unit_30 ⟨Nat.le_of_ble_eq_true rfl, Nat.le_of_ble_eq_true rfl⟩) (fun hp76 H locs hq79 hw hS => ?_)
    obtain ⟨ok77, F78⟩ := hq79
    have hw : PW G cy K ln Ls A hp76 H := hw
    refine lv_goto (tgt := 79) hx hb dX5_unit_33 (by decide) ?_
    rw [hQ]
    exact kz_v hx hb hr hlocks hS hp76 hw ⟨ok77, (Fr.tr (Fr.tr (Fr.rf) F69 (by decide)) F78 (by decide))⟩ (Nat.le_of_ble_eq_true rfl) (Nat.le_of_ble_eq_true rfl) dX5_unit_79

set_option maxRecDepth 100000 in
set_option maxHeartbeats 4000000 in
theorem cX5_product_0 (l : Launch) (G : va_G) (cy : Nat → ClassId) (ev : Ew) (K ln : Nat → Nat) (Ls : List Nat) (hW : SW K ln Ls) (sz : Nat) (hp0 : Nat → Nat → Value) (ok0 : Ok K hp0) (qa900 : Nat) (qa901 : Nat) (zi902 : Int32) (kd900 : K qa900 = 6) (kd901 : K qa901 = 3) (bd902 : ((6 : Int) ≤ zi902.toInt ∧ zi902.toInt ≤ 6)) : Met l yX5_product (WS yX5_product cX5_product 5 none) { frames := 3, cells := 0, slots := 0, locals := 65 } (PB2 [.ref qa900, .ref qa901, .int zi902] sz G cy ev (va_pl Ls (cellOf cy K ln hp0))) (QBv (S := (Nat → Nat → Value)) (fun u : (Nat → Nat → Value) => Ok K u ∧ Fr [3002, 6002, 6003, 6004, 26000] K hp0 u) G (fun u => va_pl Ls (cellOf cy K ln u)) (va_A (va_pl Ls (cellOf cy K ln hp0)) sz)) 0 0 (va_A (va_pl Ls (cellOf cy K ln hp0)) sz) := by
  refine met_of2 (y := yX5_product) (L := 5) (av := [.ref qa900, .ref qa901, .int zi902]) (Qc := fun A => QBv (S := (Nat → Nat → Value)) (fun u : (Nat → Nat → Value) => Ok K u ∧ Fr [3002, 6002, 6003, 6004, 26000] K hp0 u) G (fun u => va_pl Ls (cellOf cy K ln u)) A) (plainFor_of_name (by decide)) (Nat.le_of_ble_eq_true rfl) ?_
  intro p e s m below meth c hsz hx hb hr hml hown hT hlocks hin hK A hA hE hw hS ls hl
  have hw : PW G cy K ln Ls A hp0 s.heap := hw
  have hown : s.vm.findClass "LieClock$Parser" = some m.cls := hown
  have hl : lv_has ls 5 [(0, .ref qa900), (1, .ref qa901), (2, .int zi902)] := hl
  obtain ⟨Q, hQ⟩ : ∃ Q : State → Prop, Q = MQ below (QBv (S := (Nat → Nat → Value)) (fun u : (Nat → Nat → Value) => Ok K u ∧ Fr [3002, 6002, 6003, 6004, 26000] K hp0 u) G (fun u => va_pl Ls (cellOf cy K ln u)) A) ([.ref qa900, .ref qa901, .int zi902] : List Value).toArray s 0 0 A := ⟨_, rfl⟩
  rw [← hQ]
  refine lv_aload_n hx hb dX5_product_0 rfl (lv_at hl 0 rfl) ?_
  refine lv_aload_n hx hb dX5_product_1 rfl (lv_at hl 1 rfl) ?_
  refine lv_iload_n hx hb dX5_product_2 rfl (lv_at hl 2 rfl) ?_
  refine kq_v hw hS hA (va_runV (As := [.ref qa901, .int zi902]) (rest := []) ⟨hx, hb, hml, hown, hT⟩ (cX5_unit_0 l G cy ev K ln Ls hW _ hp0 ok0 qa900 qa901 zi902 kd900 kd901 (b_wid2 bd902 (by decide) (by decide))) (cwV 2 hT (good_V tb_959 tb_956 tb_958 tb_24 tb_109) rfl rfl rfl (by decide +kernel) ⟨Nat.le_of_ble_eq_true rfl, Nat.le_of_ble_eq_true rfl⟩) (pool_preV (ci := 5) hK hE hS hA hw hW kd900 (by decide) rfl) rfl rfl hl.1 rfl (lv_room (Nat.le_of_ble_eq_true rfl)) dX5_product_3 ⟨Nat.le_of_ble_eq_true rfl, Nat.le_of_ble_eq_true rfl⟩) (fun hp1 H locs hq4 hw hS => ?_)
  obtain ⟨ok2, F3⟩ := hq4
  have hw : PW G cy K ln Ls A hp1 H := hw
  refine lv_iconst (v := 0) hx hb dX5_product_6 (by decide) ?_
  refine lv_istore_n (lv' := [(3, .int 0), (0, .ref qa900), (1, .ref qa901), (2, .int zi902)]) hx hb dX5_product_7 rfl hl (by decide) rfl (fun ls hl => ?_)
  have jn611 : ∀ (hp608 : Nat → Nat → Value)  (H : Heap) (locs : List Loc) (ls : Array Slot), Ok K hp608 → Fr [3002, 6002, 6003, 6004, 26000] K hp1 hp608 → lv_has ls 5 [] → PW G cy K ln Ls A hp608 H → va_S A s.heap H locs → W p l e ({ frames := 3, cells := 0, slots := 0, locals := 65 } : Room) s m ([.ref qa900, .ref qa901, .int zi902] : List Value).toArray below meth c H locs 0 0 Q (F0 m 65 ls []) := by
    intro hp608 H locs ls ok610 F609 hl hw hS
    rw [hQ]
    exact kz_v hx hb hr hlocks hS hp608 hw ⟨ok610, (Fr.tr (Fr.tr (Fr.rf) F3 (by decide)) F609 (by decide))⟩ (Nat.le_of_ble_eq_true rfl) (Nat.le_of_ble_eq_true rfl) dX5_product_65
  have lp614 : ∀ (n612 : Nat) (hp486 : Nat → Nat → Value) (zi485 : Int32) (H : Heap) (locs : List Loc) (ls : Array Slot), 401 - zi485.toInt < (n612 : Int) → Ok K hp486 → Fr [3002, 6002, 6003, 6004, 26000] K hp1 hp486 → ((0 : Int) ≤ zi485.toInt ∧ zi485.toInt ≤ 401) → lv_has ls 5 [(0, .ref qa900), (1, .ref qa901), (2, .int zi902), (3, .int zi485)] → PW G cy K ln Ls A hp486 H → va_S A s.heap H locs → W p l e ({ frames := 3, cells := 0, slots := 0, locals := 65 } : Room) s m ([.ref qa900, .ref qa901, .int zi902] : List Value).toArray below meth c H locs 0 0 Q (F0 m 8 ls []) := by
    intro n612
    induction n612 with
    | zero =>
      intro hp486 zi485 H locs ls hm615 ok488 F487 bd489 hl hw hS
      exact absurd hm615 (by have := bd489; omega)
    | succ n612 ih613 =>
      intro hp486 zi485 H locs ls hm615 ok488 F487 bd489 hl hw hS
      refine lv_iload_n hx hb dX5_product_8 rfl (lv_at hl 3 rfl) ?_
      refine lv_sipush (v := 400) hx hb dX5_product_9 (by decide) ?_
      refine lv_icmp_gt (tgt := 65) hx hb dX5_product_12 (by decide) (fun cn616 => ?_) (fun cn616 => ?_)
      · skip
        have bd617 : (401 : Int) ≤ zi485.toInt ∧ zi485.toInt ≤ 401 := r_lt_y cn616 bc_400 bd489 (by decide) (by decide)
        exact jn611 hp486 _ _ ls ok488 (Fr.tr (Fr.rf) F487 (by decide)) (lv_sub hl [] rfl) hw hS
      · skip
        have bd618 : (0 : Int) ≤ zi485.toInt ∧ zi485.toInt ≤ 400 := r_le_x (Int32.not_lt.mp cn616) bd489 bc_400 (by decide) (by decide)
        refine lv_aload_n hx hb dX5_product_15 rfl (lv_at hl 0 rfl) ?_
        obtain ⟨zi620, eq619⟩ := rd_6003 ok488 kd900
        refine p_get (ci := 5) (v := .int zi620) (C := RX5) (T := TX5) (N := 7) hx hb hT iw_X5 hown hK hw hW kd900 (by decide) rfl rfl 3 (by decide) eq619 (hT _ tb_374) (fun _ h9 => h9) dX5_product_16 ?_
        refine lv_bipush (v := 42) hx hb dX5_product_19 (by decide) ?_
        refine lv_icmp_eq (tgt := 33) hx hb dX5_product_21 (by decide) (fun cn621 => ?_) (fun cn621 => ?_)
        · skip
          have bd622 : (42 : Int) ≤ zi620.toInt ∧ zi620.toInt ≤ 42 := r_eq_x cn621 (b_all zi620) bc_42 (by decide) (by decide)
          refine lv_aload_n hx hb dX5_product_33 rfl (lv_at hl 0 rfl) ?_
          refine p_get (ci := 5) (v := .int zi620) (C := RX5) (T := TX5) (N := 7) hx hb hT iw_X5 hown hK hw hW kd900 (by decide) rfl rfl 3 (by decide) eq619 (hT _ tb_374) (fun _ h9 => h9) dX5_product_34 ?_
          refine lv_istore (lv' := [(4, .int zi620), (0, .ref qa900), (1, .ref qa901), (2, .int zi902), (3, .int zi485)]) hx hb dX5_product_37 hl (by decide) rfl (fun ls hl => ?_)
          refine lv_aload_n hx hb dX5_product_39 rfl (lv_at hl 1 rfl) ?_
          refine lv_iload hx hb dX5_product_40 (lv_at hl 0 rfl) ?_
          refine kq_i hw hS hA (va_runV (As := [.int zi620]) (rest := []) ⟨hx, hb, hml, hown, hT⟩ (cX5_accept_0 l G cy ev K ln Ls hW _ hp486 ok488 qa900 zi620 kd900) (cwV 1 hT (good_V tb_854 tb_851 tb_853 tb_8 tb_109) rfl rfl rfl (by decide +kernel) ⟨Nat.le_of_ble_eq_true rfl, Nat.le_of_ble_eq_true rfl⟩) (pool_preV (ci := 5) hK hE hS hA hw hW kd900 (by decide) rfl) rfl rfl hl.1 rfl (lv_room (Nat.le_of_ble_eq_true rfl)) dX5_product_42 ⟨Nat.le_of_ble_eq_true rfl, Nat.le_of_ble_eq_true rfl⟩) (fun zi627 hp623 H locs hq626 hw hS => ?_)
          obtain ⟨ok624, F625, bd628, hc629, hc630⟩ := hq626
          have hw : PW G cy K ln Ls A hp623 H := hw
          refine lv_pop hx hb dX5_product_45 rfl ?_
          refine lv_aload_n hx hb dX5_product_46 rfl (lv_at hl 1 rfl) ?_
          refine lv_aload_n hx hb dX5_product_47 rfl (lv_at hl 2 rfl) ?_
          refine lv_iload_n hx hb dX5_product_48 rfl (lv_at hl 3 rfl) ?_
          refine kq_v hw hS hA (va_runV (As := [.ref qa901, .int zi902]) (rest := []) ⟨hx, hb, hml, hown, hT⟩ (cX5_unit_0 l G cy ev K ln Ls hW _ hp623 ok624 qa900 qa901 zi902 kd900 kd901 (b_wid2 bd902 (by decide) (by decide))) (cwV 2 hT (good_V tb_959 tb_956 tb_958 tb_24 tb_109) rfl rfl rfl (by decide +kernel) ⟨Nat.le_of_ble_eq_true rfl, Nat.le_of_ble_eq_true rfl⟩) (pool_preV (ci := 5) hK hE hS hA hw hW kd900 (by decide) rfl) rfl rfl hl.1 rfl (lv_room (Nat.le_of_ble_eq_true rfl)) dX5_product_49 ⟨Nat.le_of_ble_eq_true rfl, Nat.le_of_ble_eq_true rfl⟩) (fun hp631 H locs hq634 hw hS => ?_)
          obtain ⟨ok632, F633⟩ := hq634
          have hw : PW G cy K ln Ls A hp631 H := hw
          refine lv_aload_n hx hb dX5_product_52 rfl (lv_at hl 2 rfl) ?_
          refine lv_iload hx hb dX5_product_53 (lv_at hl 0 rfl) ?_
          refine lv_ineg hx hb dX5_product_55 (lv_topi (fun zi636 ea637 => ?_))
          refine kq_v hw hS hA (va_runV (As := [.int zi636]) (rest := []) ⟨hx, hb, hml, hown, hT⟩ (cX2_add_0 l G cy ev K ln Ls hW _ hp631 ok632 qa901 zi636 kd901) (cwV 1 hT (good_V tb_404 tb_960 tb_402 tb_403 tb_108) rfl rfl rfl (by decide +kernel) ⟨Nat.le_of_ble_eq_true rfl, Nat.le_of_ble_eq_true rfl⟩) (pool_preV (ci := 2) hK hE hS hA hw hW kd901 (by decide) rfl) rfl rfl hl.1 rfl (lv_room (Nat.le_of_ble_eq_true rfl)) dX5_product_56 ⟨Nat.le_of_ble_eq_true rfl, Nat.le_of_ble_eq_true rfl⟩) (fun hp638 H locs hq641 hw hS => ?_)
          obtain ⟨ok639, F640⟩ := hq641
          have hw : PW G cy K ln Ls A hp638 H := hw
          obtain ⟨zi643, ea644⟩ : ∃ z : Int32, z = zi485 + 1 := ⟨_, rfl⟩
          have bd645 : (1 : Int) ≤ zi643.toInt ∧ zi643.toInt ≤ 401 := b_iadd ea644 bd618 bc_1 (by decide) (by decide) (by decide) (by decide)
          have qe646 : zi643.toInt = (zi485 : Int32).toInt + (1 : Int32).toInt := e_iadd ea644 bd618 bc_1 (by decide) (by decide)
          have qe647 : zi643.toInt = zi485.toInt + 1 := by have ha : (1 : Int32).toInt = 1 := (by decide); rw [ha] at qe646; exact qe646
          refine lv_iinc (v := zi643) (lv' := [(3, .int zi643), (4, .int zi620), (0, .ref qa900), (1, .ref qa901), (2, .int zi902)]) hx hb dX5_product_59 hl (k := 4) rfl ea644.symm (by decide) rfl (fun ls hl => ?_)
          refine lv_goto (tgt := 8) hx hb dX5_product_62 (by decide) ?_
          exact ih613 hp638 zi643 _ _ ls (by have := hm615; have := qe647; omega) ok639 (Fr.tr (Fr.tr (Fr.tr (Fr.tr (Fr.rf) F487 (by decide)) F625 (by decide)) F633 (by decide)) F640 (by decide)) (b_wid2 bd645 (by decide) (by decide)) (lv_sub hl [2, 3, 4, 0] rfl) hw hS
        · skip
          refine lv_aload_n hx hb dX5_product_24 rfl (lv_at hl 0 rfl) ?_
          refine p_get (ci := 5) (v := .int zi620) (C := RX5) (T := TX5) (N := 7) hx hb hT iw_X5 hown hK hw hW kd900 (by decide) rfl rfl 3 (by decide) eq619 (hT _ tb_374) (fun _ h9 => h9) dX5_product_25 ?_
          refine lv_bipush (v := 47) hx hb dX5_product_28 (by decide) ?_
          refine lv_icmp_ne (tgt := 65) hx hb dX5_product_30 (by decide) (fun cn648 => ?_) (fun cn648 => ?_)
          · skip
            exact jn611 hp486 _ _ ls ok488 (Fr.tr (Fr.rf) F487 (by decide)) (lv_sub hl [] rfl) hw hS
          · skip
            have bd649 : (47 : Int) ≤ zi620.toInt ∧ zi620.toInt ≤ 47 := r_eq_x cn648 (b_all zi620) bc_47 (by decide) (by decide)
            refine lv_aload_n hx hb dX5_product_33 rfl (lv_at hl 0 rfl) ?_
            refine p_get (ci := 5) (v := .int zi620) (C := RX5) (T := TX5) (N := 7) hx hb hT iw_X5 hown hK hw hW kd900 (by decide) rfl rfl 3 (by decide) eq619 (hT _ tb_374) (fun _ h9 => h9) dX5_product_34 ?_
            refine lv_istore (lv' := [(4, .int zi620), (0, .ref qa900), (1, .ref qa901), (2, .int zi902), (3, .int zi485)]) hx hb dX5_product_37 hl (by decide) rfl (fun ls hl => ?_)
            refine lv_aload_n hx hb dX5_product_39 rfl (lv_at hl 1 rfl) ?_
            refine lv_iload hx hb dX5_product_40 (lv_at hl 0 rfl) ?_
            refine kq_i hw hS hA (va_runV (As := [.int zi620]) (rest := []) ⟨hx, hb, hml, hown, hT⟩ (cX5_accept_0 l G cy ev K ln Ls hW _ hp486 ok488 qa900 zi620 kd900) (cwV 1 hT (good_V tb_854 tb_851 tb_853 tb_8 tb_109) rfl rfl rfl (by decide +kernel) ⟨Nat.le_of_ble_eq_true rfl, Nat.le_of_ble_eq_true rfl⟩) (pool_preV (ci := 5) hK hE hS hA hw hW kd900 (by decide) rfl) rfl rfl hl.1 rfl (lv_room (Nat.le_of_ble_eq_true rfl)) dX5_product_42 ⟨Nat.le_of_ble_eq_true rfl, Nat.le_of_ble_eq_true rfl⟩) (fun zi654 hp650 H locs hq653 hw hS => ?_)
            obtain ⟨ok651, F652, bd655, hc656, hc657⟩ := hq653
            have hw : PW G cy K ln Ls A hp650 H := hw
            refine lv_pop hx hb dX5_product_45 rfl ?_
            refine lv_aload_n hx hb dX5_product_46 rfl (lv_at hl 1 rfl) ?_
            refine lv_aload_n hx hb dX5_product_47 rfl (lv_at hl 2 rfl) ?_
            refine lv_iload_n hx hb dX5_product_48 rfl (lv_at hl 3 rfl) ?_
            refine kq_v hw hS hA (va_runV (As := [.ref qa901, .int zi902]) (rest := []) ⟨hx, hb, hml, hown, hT⟩ (cX5_unit_0 l G cy ev K ln Ls hW _ hp650 ok651 qa900 qa901 zi902 kd900 kd901 (b_wid2 bd902 (by decide) (by decide))) (cwV 2 hT (good_V tb_959 tb_956 tb_958 tb_24 tb_109) rfl rfl rfl (by decide +kernel) ⟨Nat.le_of_ble_eq_true rfl, Nat.le_of_ble_eq_true rfl⟩) (pool_preV (ci := 5) hK hE hS hA hw hW kd900 (by decide) rfl) rfl rfl hl.1 rfl (lv_room (Nat.le_of_ble_eq_true rfl)) dX5_product_49 ⟨Nat.le_of_ble_eq_true rfl, Nat.le_of_ble_eq_true rfl⟩) (fun hp658 H locs hq661 hw hS => ?_)
            obtain ⟨ok659, F660⟩ := hq661
            have hw : PW G cy K ln Ls A hp658 H := hw
            refine lv_aload_n hx hb dX5_product_52 rfl (lv_at hl 2 rfl) ?_
            refine lv_iload hx hb dX5_product_53 (lv_at hl 0 rfl) ?_
            refine lv_ineg hx hb dX5_product_55 (lv_topi (fun zi663 ea664 => ?_))
            refine kq_v hw hS hA (va_runV (As := [.int zi663]) (rest := []) ⟨hx, hb, hml, hown, hT⟩ (cX2_add_0 l G cy ev K ln Ls hW _ hp658 ok659 qa901 zi663 kd901) (cwV 1 hT (good_V tb_404 tb_960 tb_402 tb_403 tb_108) rfl rfl rfl (by decide +kernel) ⟨Nat.le_of_ble_eq_true rfl, Nat.le_of_ble_eq_true rfl⟩) (pool_preV (ci := 2) hK hE hS hA hw hW kd901 (by decide) rfl) rfl rfl hl.1 rfl (lv_room (Nat.le_of_ble_eq_true rfl)) dX5_product_56 ⟨Nat.le_of_ble_eq_true rfl, Nat.le_of_ble_eq_true rfl⟩) (fun hp665 H locs hq668 hw hS => ?_)
            obtain ⟨ok666, F667⟩ := hq668
            have hw : PW G cy K ln Ls A hp665 H := hw
            obtain ⟨zi670, ea671⟩ : ∃ z : Int32, z = zi485 + 1 := ⟨_, rfl⟩
            have bd672 : (1 : Int) ≤ zi670.toInt ∧ zi670.toInt ≤ 401 := b_iadd ea671 bd618 bc_1 (by decide) (by decide) (by decide) (by decide)
            have qe673 : zi670.toInt = (zi485 : Int32).toInt + (1 : Int32).toInt := e_iadd ea671 bd618 bc_1 (by decide) (by decide)
            have qe674 : zi670.toInt = zi485.toInt + 1 := by have ha : (1 : Int32).toInt = 1 := (by decide); rw [ha] at qe673; exact qe673
            refine lv_iinc (v := zi670) (lv' := [(3, .int zi670), (4, .int zi620), (0, .ref qa900), (1, .ref qa901), (2, .int zi902)]) hx hb dX5_product_59 hl (k := 4) rfl ea671.symm (by decide) rfl (fun ls hl => ?_)
            refine lv_goto (tgt := 8) hx hb dX5_product_62 (by decide) ?_
            exact ih613 hp665 zi670 _ _ ls (by have := hm615; have := qe674; omega) ok666 (Fr.tr (Fr.tr (Fr.tr (Fr.tr (Fr.rf) F487 (by decide)) F652 (by decide)) F660 (by decide)) F667 (by decide)) (b_wid2 bd672 (by decide) (by decide)) (lv_sub hl [2, 3, 4, 0] rfl) hw hS
  exact lp614 _ hp1 0 _ _ ls (lp_in _) ok2 (Fr.rf) (b_wid2 bc_0 (by decide) (by decide)) (lv_sub hl [1, 2, 3, 0] rfl) hw hS

set_option maxRecDepth 100000 in
set_option maxHeartbeats 4000000 in
theorem cX5_sum_0 (l : Launch) (G : va_G) (cy : Nat → ClassId) (ev : Ew) (K ln : Nat → Nat) (Ls : List Nat) (hW : SW K ln Ls) (sz : Nat) (hp0 : Nat → Nat → Value) (ok0 : Ok K hp0) (qa900 : Nat) (qa901 : Nat) (zi902 : Int32) (kd900 : K qa900 = 6) (kd901 : K qa901 = 3) (bd902 : ((6 : Int) ≤ zi902.toInt ∧ zi902.toInt ≤ 6)) : Met l yX5_sum (WS yX5_sum cX5_sum 5 none) { frames := 4, cells := 0, slots := 0, locals := 89 } (PB2 [.ref qa900, .ref qa901, .int zi902] sz G cy ev (va_pl Ls (cellOf cy K ln hp0))) (QBv (S := (Nat → Nat → Value)) (fun u : (Nat → Nat → Value) => Ok K u ∧ Fr [3002, 6002, 6003, 6004, 26000] K hp0 u) G (fun u => va_pl Ls (cellOf cy K ln u)) (va_A (va_pl Ls (cellOf cy K ln hp0)) sz)) 0 0 (va_A (va_pl Ls (cellOf cy K ln hp0)) sz) := by
  refine met_of2 (y := yX5_sum) (L := 5) (av := [.ref qa900, .ref qa901, .int zi902]) (Qc := fun A => QBv (S := (Nat → Nat → Value)) (fun u : (Nat → Nat → Value) => Ok K u ∧ Fr [3002, 6002, 6003, 6004, 26000] K hp0 u) G (fun u => va_pl Ls (cellOf cy K ln u)) A) (plainFor_of_name (by decide)) (Nat.le_of_ble_eq_true rfl) ?_
  intro p e s m below meth c hsz hx hb hr hml hown hT hlocks hin hK A hA hE hw hS ls hl
  have hw : PW G cy K ln Ls A hp0 s.heap := hw
  have hown : s.vm.findClass "LieClock$Parser" = some m.cls := hown
  have hl : lv_has ls 5 [(0, .ref qa900), (1, .ref qa901), (2, .int zi902)] := hl
  obtain ⟨Q, hQ⟩ : ∃ Q : State → Prop, Q = MQ below (QBv (S := (Nat → Nat → Value)) (fun u : (Nat → Nat → Value) => Ok K u ∧ Fr [3002, 6002, 6003, 6004, 26000] K hp0 u) G (fun u => va_pl Ls (cellOf cy K ln u)) A) ([.ref qa900, .ref qa901, .int zi902] : List Value).toArray s 0 0 A := ⟨_, rfl⟩
  rw [← hQ]
  refine lv_aload_n hx hb dX5_sum_0 rfl (lv_at hl 0 rfl) ?_
  refine lv_aload_n hx hb dX5_sum_1 rfl (lv_at hl 1 rfl) ?_
  refine lv_iload_n hx hb dX5_sum_2 rfl (lv_at hl 2 rfl) ?_
  refine kq_v hw hS hA (va_runV (As := [.ref qa901, .int zi902]) (rest := []) ⟨hx, hb, hml, hown, hT⟩ (cX5_product_0 l G cy ev K ln Ls hW _ hp0 ok0 qa900 qa901 zi902 kd900 kd901 (b_wid2 bd902 (by decide) (by decide))) (cwV 2 hT (good_V tb_955 tb_952 tb_954 tb_23 tb_109) rfl rfl rfl (by decide +kernel) ⟨Nat.le_of_ble_eq_true rfl, Nat.le_of_ble_eq_true rfl⟩) (pool_preV (ci := 5) hK hE hS hA hw hW kd900 (by decide) rfl) rfl rfl hl.1 rfl (lv_room (Nat.le_of_ble_eq_true rfl)) dX5_sum_3 ⟨Nat.le_of_ble_eq_true rfl, Nat.le_of_ble_eq_true rfl⟩) (fun hp1 H locs hq4 hw hS => ?_)
  obtain ⟨ok2, F3⟩ := hq4
  have hw : PW G cy K ln Ls A hp1 H := hw
  refine lv_iconst (v := 0) hx hb dX5_sum_6 (by decide) ?_
  refine lv_istore_n (lv' := [(3, .int 0), (0, .ref qa900), (1, .ref qa901), (2, .int zi902)]) hx hb dX5_sum_7 rfl hl (by decide) rfl (fun ls hl => ?_)
  have jn611 : ∀ (hp608 : Nat → Nat → Value)  (H : Heap) (locs : List Loc) (ls : Array Slot), Ok K hp608 → Fr [3002, 6002, 6003, 6004, 26000] K hp1 hp608 → lv_has ls 5 [] → PW G cy K ln Ls A hp608 H → va_S A s.heap H locs → W p l e ({ frames := 4, cells := 0, slots := 0, locals := 89 } : Room) s m ([.ref qa900, .ref qa901, .int zi902] : List Value).toArray below meth c H locs 0 0 Q (F0 m 65 ls []) := by
    intro hp608 H locs ls ok610 F609 hl hw hS
    rw [hQ]
    exact kz_v hx hb hr hlocks hS hp608 hw ⟨ok610, (Fr.tr (Fr.tr (Fr.rf) F3 (by decide)) F609 (by decide))⟩ (Nat.le_of_ble_eq_true rfl) (Nat.le_of_ble_eq_true rfl) dX5_sum_65
  have lp614 : ∀ (n612 : Nat) (hp486 : Nat → Nat → Value) (zi485 : Int32) (H : Heap) (locs : List Loc) (ls : Array Slot), 401 - zi485.toInt < (n612 : Int) → Ok K hp486 → Fr [3002, 6002, 6003, 6004, 26000] K hp1 hp486 → ((0 : Int) ≤ zi485.toInt ∧ zi485.toInt ≤ 401) → lv_has ls 5 [(0, .ref qa900), (1, .ref qa901), (2, .int zi902), (3, .int zi485)] → PW G cy K ln Ls A hp486 H → va_S A s.heap H locs → W p l e ({ frames := 4, cells := 0, slots := 0, locals := 89 } : Room) s m ([.ref qa900, .ref qa901, .int zi902] : List Value).toArray below meth c H locs 0 0 Q (F0 m 8 ls []) := by
    intro n612
    induction n612 with
    | zero =>
      intro hp486 zi485 H locs ls hm615 ok488 F487 bd489 hl hw hS
      exact absurd hm615 (by have := bd489; omega)
    | succ n612 ih613 =>
      intro hp486 zi485 H locs ls hm615 ok488 F487 bd489 hl hw hS
      refine lv_iload_n hx hb dX5_sum_8 rfl (lv_at hl 3 rfl) ?_
      refine lv_sipush (v := 400) hx hb dX5_sum_9 (by decide) ?_
      refine lv_icmp_gt (tgt := 65) hx hb dX5_sum_12 (by decide) (fun cn616 => ?_) (fun cn616 => ?_)
      · skip
        have bd617 : (401 : Int) ≤ zi485.toInt ∧ zi485.toInt ≤ 401 := r_lt_y cn616 bc_400 bd489 (by decide) (by decide)
        exact jn611 hp486 _ _ ls ok488 (Fr.tr (Fr.rf) F487 (by decide)) (lv_sub hl [] rfl) hw hS
      · skip
        have bd618 : (0 : Int) ≤ zi485.toInt ∧ zi485.toInt ≤ 400 := r_le_x (Int32.not_lt.mp cn616) bd489 bc_400 (by decide) (by decide)
        refine lv_aload_n hx hb dX5_sum_15 rfl (lv_at hl 0 rfl) ?_
        obtain ⟨zi620, eq619⟩ := rd_6003 ok488 kd900
        refine p_get (ci := 5) (v := .int zi620) (C := RX5) (T := TX5) (N := 7) hx hb hT iw_X5 hown hK hw hW kd900 (by decide) rfl rfl 3 (by decide) eq619 (hT _ tb_374) (fun _ h9 => h9) dX5_sum_16 ?_
        refine lv_bipush (v := 43) hx hb dX5_sum_19 (by decide) ?_
        refine lv_icmp_eq (tgt := 33) hx hb dX5_sum_21 (by decide) (fun cn621 => ?_) (fun cn621 => ?_)
        · skip
          have bd622 : (43 : Int) ≤ zi620.toInt ∧ zi620.toInt ≤ 43 := r_eq_x cn621 (b_all zi620) bc_43 (by decide) (by decide)
          refine lv_aload_n hx hb dX5_sum_33 rfl (lv_at hl 0 rfl) ?_
          refine p_get (ci := 5) (v := .int zi620) (C := RX5) (T := TX5) (N := 7) hx hb hT iw_X5 hown hK hw hW kd900 (by decide) rfl rfl 3 (by decide) eq619 (hT _ tb_374) (fun _ h9 => h9) dX5_sum_34 ?_
          refine lv_istore (lv' := [(4, .int zi620), (0, .ref qa900), (1, .ref qa901), (2, .int zi902), (3, .int zi485)]) hx hb dX5_sum_37 hl (by decide) rfl (fun ls hl => ?_)
          refine lv_aload_n hx hb dX5_sum_39 rfl (lv_at hl 1 rfl) ?_
          refine lv_iload hx hb dX5_sum_40 (lv_at hl 0 rfl) ?_
          refine kq_i hw hS hA (va_runV (As := [.int zi620]) (rest := []) ⟨hx, hb, hml, hown, hT⟩ (cX5_accept_0 l G cy ev K ln Ls hW _ hp486 ok488 qa900 zi620 kd900) (cwV 1 hT (good_V tb_854 tb_851 tb_853 tb_8 tb_109) rfl rfl rfl (by decide +kernel) ⟨Nat.le_of_ble_eq_true rfl, Nat.le_of_ble_eq_true rfl⟩) (pool_preV (ci := 5) hK hE hS hA hw hW kd900 (by decide) rfl) rfl rfl hl.1 rfl (lv_room (Nat.le_of_ble_eq_true rfl)) dX5_sum_42 ⟨Nat.le_of_ble_eq_true rfl, Nat.le_of_ble_eq_true rfl⟩) (fun zi627 hp623 H locs hq626 hw hS => ?_)
          obtain ⟨ok624, F625, bd628, hc629, hc630⟩ := hq626
          have hw : PW G cy K ln Ls A hp623 H := hw
          refine lv_pop hx hb dX5_sum_45 rfl ?_
          refine lv_aload_n hx hb dX5_sum_46 rfl (lv_at hl 1 rfl) ?_
          refine lv_aload_n hx hb dX5_sum_47 rfl (lv_at hl 2 rfl) ?_
          refine lv_iload_n hx hb dX5_sum_48 rfl (lv_at hl 3 rfl) ?_
          refine kq_v hw hS hA (va_runV (As := [.ref qa901, .int zi902]) (rest := []) ⟨hx, hb, hml, hown, hT⟩ (cX5_product_0 l G cy ev K ln Ls hW _ hp623 ok624 qa900 qa901 zi902 kd900 kd901 (b_wid2 bd902 (by decide) (by decide))) (cwV 2 hT (good_V tb_955 tb_952 tb_954 tb_23 tb_109) rfl rfl rfl (by decide +kernel) ⟨Nat.le_of_ble_eq_true rfl, Nat.le_of_ble_eq_true rfl⟩) (pool_preV (ci := 5) hK hE hS hA hw hW kd900 (by decide) rfl) rfl rfl hl.1 rfl (lv_room (Nat.le_of_ble_eq_true rfl)) dX5_sum_49 ⟨Nat.le_of_ble_eq_true rfl, Nat.le_of_ble_eq_true rfl⟩) (fun hp631 H locs hq634 hw hS => ?_)
          obtain ⟨ok632, F633⟩ := hq634
          have hw : PW G cy K ln Ls A hp631 H := hw
          refine lv_aload_n hx hb dX5_sum_52 rfl (lv_at hl 2 rfl) ?_
          refine lv_iload hx hb dX5_sum_53 (lv_at hl 0 rfl) ?_
          refine lv_ineg hx hb dX5_sum_55 (lv_topi (fun zi636 ea637 => ?_))
          refine kq_v hw hS hA (va_runV (As := [.int zi636]) (rest := []) ⟨hx, hb, hml, hown, hT⟩ (cX2_add_0 l G cy ev K ln Ls hW _ hp631 ok632 qa901 zi636 kd901) (cwV 1 hT (good_V tb_404 tb_960 tb_402 tb_403 tb_108) rfl rfl rfl (by decide +kernel) ⟨Nat.le_of_ble_eq_true rfl, Nat.le_of_ble_eq_true rfl⟩) (pool_preV (ci := 2) hK hE hS hA hw hW kd901 (by decide) rfl) rfl rfl hl.1 rfl (lv_room (Nat.le_of_ble_eq_true rfl)) dX5_sum_56 ⟨Nat.le_of_ble_eq_true rfl, Nat.le_of_ble_eq_true rfl⟩) (fun hp638 H locs hq641 hw hS => ?_)
          obtain ⟨ok639, F640⟩ := hq641
          have hw : PW G cy K ln Ls A hp638 H := hw
          obtain ⟨zi643, ea644⟩ : ∃ z : Int32, z = zi485 + 1 := ⟨_, rfl⟩
          have bd645 : (1 : Int) ≤ zi643.toInt ∧ zi643.toInt ≤ 401 := b_iadd ea644 bd618 bc_1 (by decide) (by decide) (by decide) (by decide)
          have qe646 : zi643.toInt = (zi485 : Int32).toInt + (1 : Int32).toInt := e_iadd ea644 bd618 bc_1 (by decide) (by decide)
          have qe647 : zi643.toInt = zi485.toInt + 1 := by have ha : (1 : Int32).toInt = 1 := (by decide); rw [ha] at qe646; exact qe646
          refine lv_iinc (v := zi643) (lv' := [(3, .int zi643), (4, .int zi620), (0, .ref qa900), (1, .ref qa901), (2, .int zi902)]) hx hb dX5_sum_59 hl (k := 4) rfl ea644.symm (by decide) rfl (fun ls hl => ?_)
          refine lv_goto (tgt := 8) hx hb dX5_sum_62 (by decide) ?_
          exact ih613 hp638 zi643 _ _ ls (by have := hm615; have := qe647; omega) ok639 (Fr.tr (Fr.tr (Fr.tr (Fr.tr (Fr.rf) F487 (by decide)) F625 (by decide)) F633 (by decide)) F640 (by decide)) (b_wid2 bd645 (by decide) (by decide)) (lv_sub hl [2, 3, 4, 0] rfl) hw hS
        · skip
          refine lv_aload_n hx hb dX5_sum_24 rfl (lv_at hl 0 rfl) ?_
          refine p_get (ci := 5) (v := .int zi620) (C := RX5) (T := TX5) (N := 7) hx hb hT iw_X5 hown hK hw hW kd900 (by decide) rfl rfl 3 (by decide) eq619 (hT _ tb_374) (fun _ h9 => h9) dX5_sum_25 ?_
          refine lv_bipush (v := 45) hx hb dX5_sum_28 (by decide) ?_
          refine lv_icmp_ne (tgt := 65) hx hb dX5_sum_30 (by decide) (fun cn648 => ?_) (fun cn648 => ?_)
          · skip
            exact jn611 hp486 _ _ ls ok488 (Fr.tr (Fr.rf) F487 (by decide)) (lv_sub hl [] rfl) hw hS
          · skip
            have bd649 : (45 : Int) ≤ zi620.toInt ∧ zi620.toInt ≤ 45 := r_eq_x cn648 (b_all zi620) bc_45 (by decide) (by decide)
            refine lv_aload_n hx hb dX5_sum_33 rfl (lv_at hl 0 rfl) ?_
            refine p_get (ci := 5) (v := .int zi620) (C := RX5) (T := TX5) (N := 7) hx hb hT iw_X5 hown hK hw hW kd900 (by decide) rfl rfl 3 (by decide) eq619 (hT _ tb_374) (fun _ h9 => h9) dX5_sum_34 ?_
            refine lv_istore (lv' := [(4, .int zi620), (0, .ref qa900), (1, .ref qa901), (2, .int zi902), (3, .int zi485)]) hx hb dX5_sum_37 hl (by decide) rfl (fun ls hl => ?_)
            refine lv_aload_n hx hb dX5_sum_39 rfl (lv_at hl 1 rfl) ?_
            refine lv_iload hx hb dX5_sum_40 (lv_at hl 0 rfl) ?_
            refine kq_i hw hS hA (va_runV (As := [.int zi620]) (rest := []) ⟨hx, hb, hml, hown, hT⟩ (cX5_accept_0 l G cy ev K ln Ls hW _ hp486 ok488 qa900 zi620 kd900) (cwV 1 hT (good_V tb_854 tb_851 tb_853 tb_8 tb_109) rfl rfl rfl (by decide +kernel) ⟨Nat.le_of_ble_eq_true rfl, Nat.le_of_ble_eq_true rfl⟩) (pool_preV (ci := 5) hK hE hS hA hw hW kd900 (by decide) rfl) rfl rfl hl.1 rfl (lv_room (Nat.le_of_ble_eq_true rfl)) dX5_sum_42 ⟨Nat.le_of_ble_eq_true rfl, Nat.le_of_ble_eq_true rfl⟩) (fun zi654 hp650 H locs hq653 hw hS => ?_)
            obtain ⟨ok651, F652, bd655, hc656, hc657⟩ := hq653
            have hw : PW G cy K ln Ls A hp650 H := hw
            refine lv_pop hx hb dX5_sum_45 rfl ?_
            refine lv_aload_n hx hb dX5_sum_46 rfl (lv_at hl 1 rfl) ?_
            refine lv_aload_n hx hb dX5_sum_47 rfl (lv_at hl 2 rfl) ?_
            refine lv_iload_n hx hb dX5_sum_48 rfl (lv_at hl 3 rfl) ?_
            refine kq_v hw hS hA (va_runV (As := [.ref qa901, .int zi902]) (rest := []) ⟨hx, hb, hml, hown, hT⟩ (cX5_product_0 l G cy ev K ln Ls hW _ hp650 ok651 qa900 qa901 zi902 kd900 kd901 (b_wid2 bd902 (by decide) (by decide))) (cwV 2 hT (good_V tb_955 tb_952 tb_954 tb_23 tb_109) rfl rfl rfl (by decide +kernel) ⟨Nat.le_of_ble_eq_true rfl, Nat.le_of_ble_eq_true rfl⟩) (pool_preV (ci := 5) hK hE hS hA hw hW kd900 (by decide) rfl) rfl rfl hl.1 rfl (lv_room (Nat.le_of_ble_eq_true rfl)) dX5_sum_49 ⟨Nat.le_of_ble_eq_true rfl, Nat.le_of_ble_eq_true rfl⟩) (fun hp658 H locs hq661 hw hS => ?_)
            obtain ⟨ok659, F660⟩ := hq661
            have hw : PW G cy K ln Ls A hp658 H := hw
            refine lv_aload_n hx hb dX5_sum_52 rfl (lv_at hl 2 rfl) ?_
            refine lv_iload hx hb dX5_sum_53 (lv_at hl 0 rfl) ?_
            refine lv_ineg hx hb dX5_sum_55 (lv_topi (fun zi663 ea664 => ?_))
            refine kq_v hw hS hA (va_runV (As := [.int zi663]) (rest := []) ⟨hx, hb, hml, hown, hT⟩ (cX2_add_0 l G cy ev K ln Ls hW _ hp658 ok659 qa901 zi663 kd901) (cwV 1 hT (good_V tb_404 tb_960 tb_402 tb_403 tb_108) rfl rfl rfl (by decide +kernel) ⟨Nat.le_of_ble_eq_true rfl, Nat.le_of_ble_eq_true rfl⟩) (pool_preV (ci := 2) hK hE hS hA hw hW kd901 (by decide) rfl) rfl rfl hl.1 rfl (lv_room (Nat.le_of_ble_eq_true rfl)) dX5_sum_56 ⟨Nat.le_of_ble_eq_true rfl, Nat.le_of_ble_eq_true rfl⟩) (fun hp665 H locs hq668 hw hS => ?_)
            obtain ⟨ok666, F667⟩ := hq668
            have hw : PW G cy K ln Ls A hp665 H := hw
            obtain ⟨zi670, ea671⟩ : ∃ z : Int32, z = zi485 + 1 := ⟨_, rfl⟩
            have bd672 : (1 : Int) ≤ zi670.toInt ∧ zi670.toInt ≤ 401 := b_iadd ea671 bd618 bc_1 (by decide) (by decide) (by decide) (by decide)
            have qe673 : zi670.toInt = (zi485 : Int32).toInt + (1 : Int32).toInt := e_iadd ea671 bd618 bc_1 (by decide) (by decide)
            have qe674 : zi670.toInt = zi485.toInt + 1 := by have ha : (1 : Int32).toInt = 1 := (by decide); rw [ha] at qe673; exact qe673
            refine lv_iinc (v := zi670) (lv' := [(3, .int zi670), (4, .int zi620), (0, .ref qa900), (1, .ref qa901), (2, .int zi902)]) hx hb dX5_sum_59 hl (k := 4) rfl ea671.symm (by decide) rfl (fun ls hl => ?_)
            refine lv_goto (tgt := 8) hx hb dX5_sum_62 (by decide) ?_
            exact ih613 hp665 zi670 _ _ ls (by have := hm615; have := qe674; omega) ok666 (Fr.tr (Fr.tr (Fr.tr (Fr.tr (Fr.rf) F487 (by decide)) F652 (by decide)) F660 (by decide)) F667 (by decide)) (b_wid2 bd672 (by decide) (by decide)) (lv_sub hl [2, 3, 4, 0] rfl) hw hS
  exact lp614 _ hp1 0 _ _ ls (lp_in _) ok2 (Fr.rf) (b_wid2 bc_0 (by decide) (by decide)) (lv_sub hl [1, 2, 3, 0] rfl) hw hS
