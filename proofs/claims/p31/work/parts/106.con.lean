set_option maxRecDepth 100000 in
set_option maxHeartbeats 4000000 in
theorem cX5_all_0 (l : Launch) (G : va_G) (cy : Nat → ClassId) (ev : Ew) (K ln : Nat → Nat) (Ls : List Nat) (hW : SW K ln Ls) (sz : Nat) (hp0 : Nat → Nat → Value) (ok0 : Ok K hp0) (qa900 : Nat) (zi901 : Int32) (kd900 : K qa900 = 6) (bd901 : ((6 : Int) ≤ zi901.toInt ∧ zi901.toInt ≤ 6)) : Met l yX5_all (WS yX5_all cX5_all 5 (some .long)) { frames := 3, cells := 0, slots := 0, locals := 71 } (PB2 [.ref qa900, .int zi901] sz G cy ev (va_pl Ls (cellOf cy K ln hp0))) (QBl (S := (Nat → Nat → Value)) (fun (r : Int64) (u : (Nat → Nat → Value)) => Ok K u ∧ Fr [6002, 6003, 6004, 6005, 6006] K hp0 u) G (fun u => va_pl Ls (cellOf cy K ln u)) (va_A (va_pl Ls (cellOf cy K ln hp0)) sz)) 0 0 (va_A (va_pl Ls (cellOf cy K ln hp0)) sz) := by
  refine met_of2 (y := yX5_all) (L := 5) (av := [.ref qa900, .int zi901]) (Qc := fun A => QBl (S := (Nat → Nat → Value)) (fun (r : Int64) (u : (Nat → Nat → Value)) => Ok K u ∧ Fr [6002, 6003, 6004, 6005, 6006] K hp0 u) G (fun u => va_pl Ls (cellOf cy K ln u)) A) (plainFor_of_name (by decide)) (Nat.le_of_ble_eq_true rfl) ?_
  intro p e s m below meth c hsz hx hb hr hml hown hT hlocks hin hK A hA hE hw hS ls hl
  have hw : PW G cy K ln Ls A hp0 s.heap := hw
  have hown : s.vm.findClass "LieClock$Parser" = some m.cls := hown
  have hl : lv_has ls 5 [(0, .ref qa900), (1, .int zi901)] := hl
  obtain ⟨Q, hQ⟩ : ∃ Q : State → Prop, Q = MQ below (QBl (S := (Nat → Nat → Value)) (fun (r : Int64) (u : (Nat → Nat → Value)) => Ok K u ∧ Fr [6002, 6003, 6004, 6005, 6006] K hp0 u) G (fun u => va_pl Ls (cellOf cy K ln u)) A) ([.ref qa900, .int zi901] : List Value).toArray s 0 0 A := ⟨_, rfl⟩
  rw [← hQ]
  refine lv_aload_n hx hb dX5_all_0 rfl (lv_at hl 0 rfl) ?_
  refine lv_iload_n hx hb dX5_all_1 rfl (lv_at hl 1 rfl) ?_
  refine kq_l hw hS hA (va_runV (As := [.int zi901]) (rest := []) ⟨hx, hb, hml, hown, hT⟩ (cX5_literal_0 l G cy ev K ln Ls hW _ hp0 ok0 qa900 zi901 kd900 (b_wid2 bd901 (by decide) (by decide))) (cwV 1 hT (good_V tb_918 tb_915 tb_917 tb_17 tb_109) rfl rfl rfl (by decide +kernel) ⟨Nat.le_of_ble_eq_true rfl, Nat.le_of_ble_eq_true rfl⟩) (pool_preV (ci := 5) hK hE hS hA hw hW kd900 (by decide) rfl) rfl rfl hl.1 rfl (lv_room (Nat.le_of_ble_eq_true rfl)) dX5_all_2 ⟨Nat.le_of_ble_eq_true rfl, Nat.le_of_ble_eq_true rfl⟩) (fun wl5 hp1 H locs hq4 hw hS => ?_)
  obtain ⟨ok2, F3⟩ := hq4
  have hw : PW G cy K ln Ls A hp1 H := hw
  refine lv_lstore_n (lv' := [(2, .long wl5), (0, .ref qa900), (1, .int zi901)]) hx hb dX5_all_5 rfl hl (by decide) rfl (fun ls hl => ?_)
  refine lv_iconst (v := 0) hx hb dX5_all_6 (by decide) ?_
  refine lv_istore (lv' := [(4, .int 0), (2, .long wl5), (0, .ref qa900), (1, .int zi901)]) hx hb dX5_all_7 hl (by decide) rfl (fun ls hl => ?_)
  have jn325 : ∀ (hp322 : Nat → Nat → Value) (wl321 : Int64) (H : Heap) (locs : List Loc) (ls : Array Slot), Ok K hp322 → Fr [6002, 6003, 6004, 6005, 6006] K hp1 hp322 → lv_has ls 5 [(2, .long wl321)] → PW G cy K ln Ls A hp322 H → va_S A s.heap H locs → W p l e ({ frames := 3, cells := 0, slots := 0, locals := 71 } : Room) s m ([.ref qa900, .int zi901] : List Value).toArray below meth c H locs 0 0 Q (F0 m 40 ls []) := by
    intro hp322 wl321 H locs ls ok324 F323 hl hw hS
    refine lv_lload_n hx hb dX5_all_40 rfl (lv_at hl 0 rfl) ?_
    rw [hQ]
    exact kz_l hx hb hr hlocks hS hp322 hw ⟨ok324, (Fr.tr (Fr.tr (Fr.rf) F3 (by decide)) F323 (by decide))⟩ (Nat.le_of_ble_eq_true rfl) (Nat.le_of_ble_eq_true rfl) dX5_all_41
  have lp328 : ∀ (n326 : Nat) (hp259 : Nat → Nat → Value) (wl257 : Int64) (zi258 : Int32) (H : Heap) (locs : List Loc) (ls : Array Slot), 401 - zi258.toInt < (n326 : Int) → Ok K hp259 → Fr [6002, 6003, 6004, 6005, 6006] K hp1 hp259 → ((0 : Int) ≤ zi258.toInt ∧ zi258.toInt ≤ 401) → lv_has ls 5 [(0, .ref qa900), (1, .int zi901), (2, .long wl257), (4, .int zi258)] → PW G cy K ln Ls A hp259 H → va_S A s.heap H locs → W p l e ({ frames := 3, cells := 0, slots := 0, locals := 71 } : Room) s m ([.ref qa900, .int zi901] : List Value).toArray below meth c H locs 0 0 Q (F0 m 9 ls []) := by
    intro n326
    induction n326 with
    | zero =>
      intro hp259 wl257 zi258 H locs ls hm329 ok261 F260 bd262 hl hw hS
      exact absurd hm329 (by have := bd262; omega)
    | succ n326 ih327 =>
      intro hp259 wl257 zi258 H locs ls hm329 ok261 F260 bd262 hl hw hS
      refine lv_iload hx hb dX5_all_9 (lv_at hl 3 rfl) ?_
      refine lv_sipush (v := 400) hx hb dX5_all_11 (by decide) ?_
      refine lv_icmp_gt (tgt := 40) hx hb dX5_all_14 (by decide) (fun cn330 => ?_) (fun cn330 => ?_)
      · skip
        have bd331 : (401 : Int) ≤ zi258.toInt ∧ zi258.toInt ≤ 401 := r_lt_y cn330 bc_400 bd262 (by decide) (by decide)
        exact jn325 hp259 wl257 _ _ ls ok261 (Fr.tr (Fr.rf) F260 (by decide)) (lv_sub hl [2] rfl) hw hS
      · skip
        have bd332 : (0 : Int) ≤ zi258.toInt ∧ zi258.toInt ≤ 400 := r_le_x (Int32.not_lt.mp cn330) bd262 bc_400 (by decide) (by decide)
        refine lv_aload_n hx hb dX5_all_17 rfl (lv_at hl 0 rfl) ?_
        refine lv_bipush (v := 112) hx hb dX5_all_18 (by decide) ?_
        refine kq_i hw hS hA (va_runV (As := [.int 112]) (rest := []) ⟨hx, hb, hml, hown, hT⟩ (cX5_accept_0 l G cy ev K ln Ls hW _ hp259 ok261 qa900 112 kd900) (cwV 1 hT (good_V tb_854 tb_851 tb_853 tb_8 tb_109) rfl rfl rfl (by decide +kernel) ⟨Nat.le_of_ble_eq_true rfl, Nat.le_of_ble_eq_true rfl⟩) (pool_preV (ci := 5) hK hE hS hA hw hW kd900 (by decide) rfl) rfl rfl hl.1 rfl (lv_room (Nat.le_of_ble_eq_true rfl)) dX5_all_20 ⟨Nat.le_of_ble_eq_true rfl, Nat.le_of_ble_eq_true rfl⟩) (fun zi337 hp333 H locs hq336 hw hS => ?_)
        obtain ⟨ok334, F335, bd338, hc339, hc340⟩ := hq336
        have hw : PW G cy K ln Ls A hp333 H := hw
        rcases b01 bd338 with cn341 | cn341
        · skip
          subst cn341
          refine lv_if_eq (tgt := 40) hx hb dX5_all_23 (by decide) (fun _ => ?_) (fun c => absurd (d_eq bc_0 bc_0) c)
          exact jn325 hp333 wl257 _ _ ls ok334 (Fr.tr (Fr.tr (Fr.rf) F260 (by decide)) F335 (by decide)) (lv_sub hl [2] rfl) hw hS
        · skip
          subst cn341
          obtain ⟨zi342, eq343, bd344⟩ := hc339 rfl
          obtain ⟨zi345, eq346, bd347⟩ := hc340 rfl
          refine lv_if_eq (tgt := 40) hx hb dX5_all_23 (by decide) (fun c => absurd c (d_ne bc_1 bc_0 (by decide))) (fun _ => ?_)
          refine lv_lload_n hx hb dX5_all_26 rfl (lv_at hl 2 rfl) ?_
          refine lv_aload_n hx hb dX5_all_27 rfl (lv_at hl 0 rfl) ?_
          refine lv_iload_n hx hb dX5_all_28 rfl (lv_at hl 1 rfl) ?_
          refine kq_l hw hS hA (va_runV (As := [.int zi901]) (rest := [.long wl257]) ⟨hx, hb, hml, hown, hT⟩ (cX5_literal_0 l G cy ev K ln Ls hW _ hp333 ok334 qa900 zi901 kd900 (b_wid2 bd901 (by decide) (by decide))) (cwV 1 hT (good_V tb_918 tb_915 tb_917 tb_17 tb_109) rfl rfl rfl (by decide +kernel) ⟨Nat.le_of_ble_eq_true rfl, Nat.le_of_ble_eq_true rfl⟩) (pool_preV (ci := 5) hK hE hS hA hw hW kd900 (by decide) rfl) rfl rfl hl.1 rfl (lv_room (Nat.le_of_ble_eq_true rfl)) dX5_all_29 ⟨Nat.le_of_ble_eq_true rfl, Nat.le_of_ble_eq_true rfl⟩) (fun wl352 hp348 H locs hq351 hw hS => ?_)
          obtain ⟨ok349, F350⟩ := hq351
          have hw : PW G cy K ln Ls A hp348 H := hw
          refine lv_land hx hb dX5_all_32 (lv_topl (fun wl353 _ => ?_))
          refine lv_lstore_n (lv' := [(2, .long wl353), (0, .ref qa900), (1, .int zi901), (4, .int zi258)]) hx hb dX5_all_33 rfl hl (by decide) rfl (fun ls hl => ?_)
          obtain ⟨zi354, ea355⟩ : ∃ z : Int32, z = zi258 + 1 := ⟨_, rfl⟩
          have bd356 : (1 : Int) ≤ zi354.toInt ∧ zi354.toInt ≤ 401 := b_iadd ea355 bd332 bc_1 (by decide) (by decide) (by decide) (by decide)
          have qe357 : zi354.toInt = (zi258 : Int32).toInt + (1 : Int32).toInt := e_iadd ea355 bd332 bc_1 (by decide) (by decide)
          have qe358 : zi354.toInt = zi258.toInt + 1 := by have ha : (1 : Int32).toInt = 1 := (by decide); rw [ha] at qe357; exact qe357
          refine lv_iinc (v := zi354) (lv' := [(4, .int zi354), (2, .long wl353), (0, .ref qa900), (1, .int zi901)]) hx hb dX5_all_34 hl (k := 3) rfl ea355.symm (by decide) rfl (fun ls hl => ?_)
          refine lv_goto (tgt := 9) hx hb dX5_all_37 (by decide) ?_
          exact ih327 hp348 wl353 zi354 _ _ ls (by have := hm329; have := qe358; omega) ok349 (Fr.tr (Fr.tr (Fr.tr (Fr.rf) F260 (by decide)) F335 (by decide)) F350 (by decide)) (b_wid2 bd356 (by decide) (by decide)) (lv_sub hl [2, 3, 1, 0] rfl) hw hS
  exact lp328 _ hp1 wl5 0 _ _ ls (lp_in _) ok2 (Fr.rf) (b_wid2 bc_0 (by decide) (by decide)) (lv_sub hl [2, 3, 1, 0] rfl) hw hS

set_option maxRecDepth 100000 in
set_option maxHeartbeats 4000000 in
theorem cX5_cond_0 (l : Launch) (G : va_G) (cy : Nat → ClassId) (ev : Ew) (K ln : Nat → Nat) (Ls : List Nat) (hW : SW K ln Ls) (sz : Nat) (hp0 : Nat → Nat → Value) (ok0 : Ok K hp0) (qa900 : Nat) (zi901 : Int32) (kd900 : K qa900 = 6) (bd901 : ((6 : Int) ≤ zi901.toInt ∧ zi901.toInt ≤ 6)) : Met l yX5_cond (WS yX5_cond cX5_cond 5 (some .long)) { frames := 4, cells := 0, slots := 0, locals := 95 } (PB2 [.ref qa900, .int zi901] sz G cy ev (va_pl Ls (cellOf cy K ln hp0))) (QBl (S := (Nat → Nat → Value)) (fun (r : Int64) (u : (Nat → Nat → Value)) => Ok K u ∧ Fr [6002, 6003, 6004, 6005, 6006] K hp0 u) G (fun u => va_pl Ls (cellOf cy K ln u)) (va_A (va_pl Ls (cellOf cy K ln hp0)) sz)) 0 0 (va_A (va_pl Ls (cellOf cy K ln hp0)) sz) := by
  refine met_of2 (y := yX5_cond) (L := 5) (av := [.ref qa900, .int zi901]) (Qc := fun A => QBl (S := (Nat → Nat → Value)) (fun (r : Int64) (u : (Nat → Nat → Value)) => Ok K u ∧ Fr [6002, 6003, 6004, 6005, 6006] K hp0 u) G (fun u => va_pl Ls (cellOf cy K ln u)) A) (plainFor_of_name (by decide)) (Nat.le_of_ble_eq_true rfl) ?_
  intro p e s m below meth c hsz hx hb hr hml hown hT hlocks hin hK A hA hE hw hS ls hl
  have hw : PW G cy K ln Ls A hp0 s.heap := hw
  have hown : s.vm.findClass "LieClock$Parser" = some m.cls := hown
  have hl : lv_has ls 5 [(0, .ref qa900), (1, .int zi901)] := hl
  obtain ⟨Q, hQ⟩ : ∃ Q : State → Prop, Q = MQ below (QBl (S := (Nat → Nat → Value)) (fun (r : Int64) (u : (Nat → Nat → Value)) => Ok K u ∧ Fr [6002, 6003, 6004, 6005, 6006] K hp0 u) G (fun u => va_pl Ls (cellOf cy K ln u)) A) ([.ref qa900, .int zi901] : List Value).toArray s 0 0 A := ⟨_, rfl⟩
  rw [← hQ]
  refine lv_aload_n hx hb dX5_cond_0 rfl (lv_at hl 0 rfl) ?_
  refine lv_iload_n hx hb dX5_cond_1 rfl (lv_at hl 1 rfl) ?_
  refine kq_l hw hS hA (va_runV (As := [.int zi901]) (rest := []) ⟨hx, hb, hml, hown, hT⟩ (cX5_all_0 l G cy ev K ln Ls hW _ hp0 ok0 qa900 zi901 kd900 (b_wid2 bd901 (by decide) (by decide))) (cwV 1 hT (good_V tb_914 tb_911 tb_913 tb_16 tb_109) rfl rfl rfl (by decide +kernel) ⟨Nat.le_of_ble_eq_true rfl, Nat.le_of_ble_eq_true rfl⟩) (pool_preV (ci := 5) hK hE hS hA hw hW kd900 (by decide) rfl) rfl rfl hl.1 rfl (lv_room (Nat.le_of_ble_eq_true rfl)) dX5_cond_2 ⟨Nat.le_of_ble_eq_true rfl, Nat.le_of_ble_eq_true rfl⟩) (fun wl5 hp1 H locs hq4 hw hS => ?_)
  obtain ⟨ok2, F3⟩ := hq4
  have hw : PW G cy K ln Ls A hp1 H := hw
  refine lv_lstore_n (lv' := [(2, .long wl5), (0, .ref qa900), (1, .int zi901)]) hx hb dX5_cond_5 rfl hl (by decide) rfl (fun ls hl => ?_)
  refine lv_iconst (v := 0) hx hb dX5_cond_6 (by decide) ?_
  refine lv_istore (lv' := [(4, .int 0), (2, .long wl5), (0, .ref qa900), (1, .int zi901)]) hx hb dX5_cond_7 hl (by decide) rfl (fun ls hl => ?_)
  have jn325 : ∀ (hp322 : Nat → Nat → Value) (wl321 : Int64) (H : Heap) (locs : List Loc) (ls : Array Slot), Ok K hp322 → Fr [6002, 6003, 6004, 6005, 6006] K hp1 hp322 → lv_has ls 5 [(2, .long wl321)] → PW G cy K ln Ls A hp322 H → va_S A s.heap H locs → W p l e ({ frames := 4, cells := 0, slots := 0, locals := 95 } : Room) s m ([.ref qa900, .int zi901] : List Value).toArray below meth c H locs 0 0 Q (F0 m 40 ls []) := by
    intro hp322 wl321 H locs ls ok324 F323 hl hw hS
    refine lv_lload_n hx hb dX5_cond_40 rfl (lv_at hl 0 rfl) ?_
    rw [hQ]
    exact kz_l hx hb hr hlocks hS hp322 hw ⟨ok324, (Fr.tr (Fr.tr (Fr.rf) F3 (by decide)) F323 (by decide))⟩ (Nat.le_of_ble_eq_true rfl) (Nat.le_of_ble_eq_true rfl) dX5_cond_41
  have lp328 : ∀ (n326 : Nat) (hp259 : Nat → Nat → Value) (wl257 : Int64) (zi258 : Int32) (H : Heap) (locs : List Loc) (ls : Array Slot), 401 - zi258.toInt < (n326 : Int) → Ok K hp259 → Fr [6002, 6003, 6004, 6005, 6006] K hp1 hp259 → ((0 : Int) ≤ zi258.toInt ∧ zi258.toInt ≤ 401) → lv_has ls 5 [(0, .ref qa900), (1, .int zi901), (2, .long wl257), (4, .int zi258)] → PW G cy K ln Ls A hp259 H → va_S A s.heap H locs → W p l e ({ frames := 4, cells := 0, slots := 0, locals := 95 } : Room) s m ([.ref qa900, .int zi901] : List Value).toArray below meth c H locs 0 0 Q (F0 m 9 ls []) := by
    intro n326
    induction n326 with
    | zero =>
      intro hp259 wl257 zi258 H locs ls hm329 ok261 F260 bd262 hl hw hS
      exact absurd hm329 (by have := bd262; omega)
    | succ n326 ih327 =>
      intro hp259 wl257 zi258 H locs ls hm329 ok261 F260 bd262 hl hw hS
      refine lv_iload hx hb dX5_cond_9 (lv_at hl 3 rfl) ?_
      refine lv_sipush (v := 400) hx hb dX5_cond_11 (by decide) ?_
      refine lv_icmp_gt (tgt := 40) hx hb dX5_cond_14 (by decide) (fun cn330 => ?_) (fun cn330 => ?_)
      · skip
        have bd331 : (401 : Int) ≤ zi258.toInt ∧ zi258.toInt ≤ 401 := r_lt_y cn330 bc_400 bd262 (by decide) (by decide)
        exact jn325 hp259 wl257 _ _ ls ok261 (Fr.tr (Fr.rf) F260 (by decide)) (lv_sub hl [2] rfl) hw hS
      · skip
        have bd332 : (0 : Int) ≤ zi258.toInt ∧ zi258.toInt ≤ 400 := r_le_x (Int32.not_lt.mp cn330) bd262 bc_400 (by decide) (by decide)
        refine lv_aload_n hx hb dX5_cond_17 rfl (lv_at hl 0 rfl) ?_
        refine lv_bipush (v := 111) hx hb dX5_cond_18 (by decide) ?_
        refine kq_i hw hS hA (va_runV (As := [.int 111]) (rest := []) ⟨hx, hb, hml, hown, hT⟩ (cX5_accept_0 l G cy ev K ln Ls hW _ hp259 ok261 qa900 111 kd900) (cwV 1 hT (good_V tb_854 tb_851 tb_853 tb_8 tb_109) rfl rfl rfl (by decide +kernel) ⟨Nat.le_of_ble_eq_true rfl, Nat.le_of_ble_eq_true rfl⟩) (pool_preV (ci := 5) hK hE hS hA hw hW kd900 (by decide) rfl) rfl rfl hl.1 rfl (lv_room (Nat.le_of_ble_eq_true rfl)) dX5_cond_20 ⟨Nat.le_of_ble_eq_true rfl, Nat.le_of_ble_eq_true rfl⟩) (fun zi337 hp333 H locs hq336 hw hS => ?_)
        obtain ⟨ok334, F335, bd338, hc339, hc340⟩ := hq336
        have hw : PW G cy K ln Ls A hp333 H := hw
        rcases b01 bd338 with cn341 | cn341
        · skip
          subst cn341
          refine lv_if_eq (tgt := 40) hx hb dX5_cond_23 (by decide) (fun _ => ?_) (fun c => absurd (d_eq bc_0 bc_0) c)
          exact jn325 hp333 wl257 _ _ ls ok334 (Fr.tr (Fr.tr (Fr.rf) F260 (by decide)) F335 (by decide)) (lv_sub hl [2] rfl) hw hS
        · skip
          subst cn341
          obtain ⟨zi342, eq343, bd344⟩ := hc339 rfl
          obtain ⟨zi345, eq346, bd347⟩ := hc340 rfl
          refine lv_if_eq (tgt := 40) hx hb dX5_cond_23 (by decide) (fun c => absurd c (d_ne bc_1 bc_0 (by decide))) (fun _ => ?_)
          refine lv_lload_n hx hb dX5_cond_26 rfl (lv_at hl 2 rfl) ?_
          refine lv_aload_n hx hb dX5_cond_27 rfl (lv_at hl 0 rfl) ?_
          refine lv_iload_n hx hb dX5_cond_28 rfl (lv_at hl 1 rfl) ?_
          refine kq_l hw hS hA (va_runV (As := [.int zi901]) (rest := [.long wl257]) ⟨hx, hb, hml, hown, hT⟩ (cX5_all_0 l G cy ev K ln Ls hW _ hp333 ok334 qa900 zi901 kd900 (b_wid2 bd901 (by decide) (by decide))) (cwV 1 hT (good_V tb_914 tb_911 tb_913 tb_16 tb_109) rfl rfl rfl (by decide +kernel) ⟨Nat.le_of_ble_eq_true rfl, Nat.le_of_ble_eq_true rfl⟩) (pool_preV (ci := 5) hK hE hS hA hw hW kd900 (by decide) rfl) rfl rfl hl.1 rfl (lv_room (Nat.le_of_ble_eq_true rfl)) dX5_cond_29 ⟨Nat.le_of_ble_eq_true rfl, Nat.le_of_ble_eq_true rfl⟩) (fun wl352 hp348 H locs hq351 hw hS => ?_)
          obtain ⟨ok349, F350⟩ := hq351
          have hw : PW G cy K ln Ls A hp348 H := hw
          refine lv_lor hx hb dX5_cond_32 (lv_topl (fun wl353 _ => ?_))
          refine lv_lstore_n (lv' := [(2, .long wl353), (0, .ref qa900), (1, .int zi901), (4, .int zi258)]) hx hb dX5_cond_33 rfl hl (by decide) rfl (fun ls hl => ?_)
          obtain ⟨zi354, ea355⟩ : ∃ z : Int32, z = zi258 + 1 := ⟨_, rfl⟩
          have bd356 : (1 : Int) ≤ zi354.toInt ∧ zi354.toInt ≤ 401 := b_iadd ea355 bd332 bc_1 (by decide) (by decide) (by decide) (by decide)
          have qe357 : zi354.toInt = (zi258 : Int32).toInt + (1 : Int32).toInt := e_iadd ea355 bd332 bc_1 (by decide) (by decide)
          have qe358 : zi354.toInt = zi258.toInt + 1 := by have ha : (1 : Int32).toInt = 1 := (by decide); rw [ha] at qe357; exact qe357
          refine lv_iinc (v := zi354) (lv' := [(4, .int zi354), (2, .long wl353), (0, .ref qa900), (1, .int zi901)]) hx hb dX5_cond_34 hl (k := 3) rfl ea355.symm (by decide) rfl (fun ls hl => ?_)
          refine lv_goto (tgt := 9) hx hb dX5_cond_37 (by decide) ?_
          exact ih327 hp348 wl353 zi354 _ _ ls (by have := hm329; have := qe358; omega) ok349 (Fr.tr (Fr.tr (Fr.tr (Fr.rf) F260 (by decide)) F335 (by decide)) F350 (by decide)) (b_wid2 bd356 (by decide) (by decide)) (lv_sub hl [2, 3, 1, 0] rfl) hw hS
  exact lp328 _ hp1 wl5 0 _ _ ls (lp_in _) ok2 (Fr.rf) (b_wid2 bc_0 (by decide) (by decide)) (lv_sub hl [2, 3, 1, 0] rfl) hw hS

set_option maxRecDepth 100000 in
set_option maxHeartbeats 4000000 in
theorem cX5_literal_1 (l : Launch) (G : va_G) (cy : Nat → ClassId) (ev : Ew) (K ln : Nat → Nat) (Ls : List Nat) (hW : SW K ln Ls) (sz : Nat) (hp0 : Nat → Nat → Value) (ok0 : Ok K hp0) (qa900 : Nat) (zi901 : Int32) (kd900 : K qa900 = 6) (bd901 : ((5 : Int) ≤ zi901.toInt ∧ zi901.toInt ≤ 5)) : Met l yX5_literal (WS yX5_literal cX5_literal 6 (some .long)) { frames := 5, cells := 0, slots := 0, locals := 119 } (PB2 [.ref qa900, .int zi901] sz G cy ev (va_pl Ls (cellOf cy K ln hp0))) (QBl (S := (Nat → Nat → Value)) (fun (r : Int64) (u : (Nat → Nat → Value)) => Ok K u ∧ Fr [6002, 6003, 6004, 6005, 6006] K hp0 u) G (fun u => va_pl Ls (cellOf cy K ln u)) (va_A (va_pl Ls (cellOf cy K ln hp0)) sz)) 0 0 (va_A (va_pl Ls (cellOf cy K ln hp0)) sz) := by
  refine met_of2 (y := yX5_literal) (L := 6) (av := [.ref qa900, .int zi901]) (Qc := fun A => QBl (S := (Nat → Nat → Value)) (fun (r : Int64) (u : (Nat → Nat → Value)) => Ok K u ∧ Fr [6002, 6003, 6004, 6005, 6006] K hp0 u) G (fun u => va_pl Ls (cellOf cy K ln u)) A) (plainFor_of_name (by decide)) (Nat.le_of_ble_eq_true rfl) ?_
  intro p e s m below meth c hsz hx hb hr hml hown hT hlocks hin hK A hA hE hw hS ls hl
  have hw : PW G cy K ln Ls A hp0 s.heap := hw
  have hown : s.vm.findClass "LieClock$Parser" = some m.cls := hown
  have hl : lv_has ls 6 [(0, .ref qa900), (1, .int zi901)] := hl
  obtain ⟨Q, hQ⟩ : ∃ Q : State → Prop, Q = MQ below (QBl (S := (Nat → Nat → Value)) (fun (r : Int64) (u : (Nat → Nat → Value)) => Ok K u ∧ Fr [6002, 6003, 6004, 6005, 6006] K hp0 u) G (fun u => va_pl Ls (cellOf cy K ln u)) A) ([.ref qa900, .int zi901] : List Value).toArray s 0 0 A := ⟨_, rfl⟩
  rw [← hQ]
  refine lv_iconst (v := 0) hx hb dX5_literal_0 (by decide) ?_
  refine lv_istore_n (lv' := [(2, .int 0), (0, .ref qa900), (1, .int zi901)]) hx hb dX5_literal_1 rfl hl (by decide) rfl (fun ls hl => ?_)
  refine lv_iconst (v := 0) hx hb dX5_literal_2 (by decide) ?_
  refine lv_istore_n (lv' := [(3, .int 0), (2, .int 0), (0, .ref qa900), (1, .int zi901)]) hx hb dX5_literal_3 rfl hl (by decide) rfl (fun ls hl => ?_)
  have jn341 : ∀ (hp337 : Nat → Nat → Value) (zi336 : Int32) (H : Heap) (locs : List Loc) (ls : Array Slot), Ok K hp337 → Fr [6002, 6003, 6004] K hp0 hp337 → ((0 : Int) ≤ zi336.toInt ∧ zi336.toInt ≤ 1) → lv_has ls 6 [(0, .ref qa900), (1, .int zi901), (2, .int zi336)] → PW G cy K ln Ls A hp337 H → va_S A s.heap H locs → W p l e ({ frames := 5, cells := 0, slots := 0, locals := 119 } : Room) s m ([.ref qa900, .int zi901] : List Value).toArray below meth c H locs 0 0 Q (F0 m 36 ls []) := by
    intro hp337 zi336 H locs ls ok339 F338 bd340 hl hw hS
    refine lv_lconst (v := 0) hx hb dX5_literal_36 (by decide) ?_
    refine lv_lstore_n (lv' := [(3, .long 0), (0, .ref qa900), (1, .int zi901), (2, .int zi336)]) hx hb dX5_literal_37 rfl hl (by decide) rfl (fun ls hl => ?_)
    refine lv_aload_n hx hb dX5_literal_38 rfl (lv_at hl 1 rfl) ?_
    obtain ⟨zi343, eq342⟩ := rd_6003 ok339 kd900
    refine p_get (ci := 5) (v := .int zi343) (C := RX5) (T := TX5) (N := 7) hx hb hT iw_X5 hown hK hw hW kd900 (by decide) rfl rfl 3 (by decide) eq342 (hT _ tb_374) (fun _ h9 => h9) dX5_literal_39 ?_
    refine lv_bipush (v := 40) hx hb dX5_literal_42 (by decide) ?_
    have jn424 : ∀ (hp421 : Nat → Nat → Value) (wl420 : Int64) (H : Heap) (locs : List Loc) (ls : Array Slot), Ok K hp421 → Fr [6002, 6003, 6004, 6005, 6006] K hp337 hp421 → lv_has ls 6 [(2, .int zi336), (3, .long wl420)] → PW G cy K ln Ls A hp421 H → va_S A s.heap H locs → W p l e ({ frames := 5, cells := 0, slots := 0, locals := 119 } : Room) s m ([.ref qa900, .int zi901] : List Value).toArray below meth c H locs 0 0 Q (F0 m 113 ls []) := by
      intro hp421 wl420 H locs ls ok423 F422 hl hw hS
      refine lv_iload_n hx hb dX5_literal_113 rfl (lv_at hl 0 rfl) ?_
      refine lv_if_eq (tgt := 125) hx hb dX5_literal_114 (by decide) (fun cn425 => ?_) (fun cn425 => ?_)
      · skip
        have bd426 : (0 : Int) ≤ zi336.toInt ∧ zi336.toInt ≤ 0 := r_eq_x cn425 bd340 bc_0 (by decide) (by decide)
        refine lv_lload_n hx hb dX5_literal_125 rfl (lv_at hl 1 rfl) ?_
        rw [hQ]
        exact kz_l hx hb hr hlocks hS hp421 hw ⟨ok423, (Fr.tr (Fr.tr (Fr.rf) F338 (by decide)) F422 (by decide))⟩ (Nat.le_of_ble_eq_true rfl) (Nat.le_of_ble_eq_true rfl) dX5_literal_126
      · skip
        have bd427 : (1 : Int) ≤ zi336.toInt ∧ zi336.toInt ≤ 1 := r_ne_lo cn425 bd340 (toi bc_0) (by decide) (by decide)
        refine lv_lload_n hx hb dX5_literal_117 rfl (lv_at hl 1 rfl) ?_
        refine lv_ldc2 (v := (-1)) hx hb hown (hT _ tb_925) dX5_literal_118 ?_
        refine lv_lxor hx hb dX5_literal_121 (lv_topl (fun wl428 _ => ?_))
        refine lv_goto (tgt := 126) hx hb dX5_literal_122 (by decide) ?_
        rw [hQ]
        exact kz_l hx hb hr hlocks hS hp421 hw ⟨ok423, (Fr.tr (Fr.tr (Fr.rf) F338 (by decide)) F422 (by decide))⟩ (Nat.le_of_ble_eq_true rfl) (Nat.le_of_ble_eq_true rfl) dX5_literal_126
    refine lv_icmp_ne (tgt := 72) hx hb dX5_literal_44 (by decide) (fun cn344 => ?_) (fun cn344 => ?_)
    · skip
      refine lv_aload_n hx hb dX5_literal_72 rfl (lv_at hl 1 rfl) ?_
      obtain ⟨qa430, eq429, kd431⟩ := rd_6001 ok339 kd900
      refine p_get (ci := 5) (v := .ref qa430) (C := RX5) (T := TX5) (N := 7) hx hb hT iw_X5 hown hK hw hW kd900 (by decide) rfl rfl 1 (by decide) eq429 (hT _ tb_372) (fun _ h9 => h9) dX5_literal_73 ?_
      refine lv_aload_n hx hb dX5_literal_76 rfl (lv_at hl 1 rfl) ?_
      refine lv_iconst (v := 2) hx hb dX5_literal_77 (by decide) ?_
      refine kq_l hw hS hA (va_runV (As := [.int 2]) (rest := [.ref qa430]) ⟨hx, hb, hml, hown, hT⟩ (cX5_take_0 l G cy ev K ln Ls hW _ hp337 ok339 qa900 2 kd900) (cwV 1 hT (good_V tb_862 tb_859 tb_861 tb_10 tb_109) rfl rfl rfl (by decide +kernel) ⟨Nat.le_of_ble_eq_true rfl, Nat.le_of_ble_eq_true rfl⟩) (pool_preV (ci := 5) hK hE hS hA hw hW kd900 (by decide) rfl) rfl rfl hl.1 rfl (lv_room (Nat.le_of_ble_eq_true rfl)) dX5_literal_78 ⟨Nat.le_of_ble_eq_true rfl, Nat.le_of_ble_eq_true rfl⟩) (fun wl436 hp432 H locs hq435 hw hS => ?_)
      obtain ⟨ok433, F434⟩ := hq435
      have hw : PW G cy K ln Ls A hp432 H := hw
      refine kq_i hw hS hA (va_runV (As := [.long wl436]) (rest := []) ⟨hx, hb, hml, hown, hT⟩ (cX10_factNamed_0 l G cy ev K ln Ls hW _ hp432 ok433 qa430 wl436 kd431) (cwV 1 hT (good_V tb_870 tb_923 tb_868 tb_869 tb_107) rfl rfl rfl (by decide +kernel) ⟨Nat.le_of_ble_eq_true rfl, Nat.le_of_ble_eq_true rfl⟩) (pool_preV (ci := 10) hK hE hS hA hw hW kd431 (by decide) rfl) rfl rfl hl.1 rfl (lv_room (Nat.le_of_ble_eq_true rfl)) dX5_literal_81 ⟨Nat.le_of_ble_eq_true rfl, Nat.le_of_ble_eq_true rfl⟩) (fun zi441 hp437 H locs hq440 hw hS => ?_)
      obtain ⟨ok438, F439, bd442⟩ := hq440
      obtain rfl : hp432 = hp437 := (Fr.nil F439).symm
      have hw : PW G cy K ln Ls A hp432 H := hw
      refine lv_istore (lv' := [(5, .int zi441), (3, .long 0), (0, .ref qa900), (1, .int zi901), (2, .int zi336)]) hx hb dX5_literal_84 hl (by decide) rfl (fun ls hl => ?_)
      refine lv_iload hx hb dX5_literal_86 (lv_at hl 0 rfl) ?_
      refine lv_if_lt (tgt := 108) hx hb dX5_literal_88 (by decide) (fun cn443 => ?_) (fun cn443 => ?_)
      · skip
        have bd444 : (-1 : Int) ≤ zi441.toInt ∧ zi441.toInt ≤ -1 := r_lt_x cn443 bd442 bc_0 (by decide) (by decide)
        refine lv_aload_n hx hb dX5_literal_108 rfl (lv_at hl 2 rfl) ?_
        refine lv_iconst (v := 4) hx hb dX5_literal_109 (by decide) ?_
        refine kq_v hw hS hA (va_runV (As := [.int 4]) (rest := []) ⟨hx, hb, hml, hown, hT⟩ (cX5_failSoftly_0 l G cy ev K ln Ls hW _ hp432 ok433 qa900 4 kd900) (cwV 1 hT (good_V tb_881 tb_878 tb_880 tb_11 tb_109) rfl rfl rfl (by decide +kernel) ⟨Nat.le_of_ble_eq_true rfl, Nat.le_of_ble_eq_true rfl⟩) (pool_preV (ci := 5) hK hE hS hA hw hW kd900 (by decide) rfl) rfl rfl hl.1 rfl (lv_room (Nat.le_of_ble_eq_true rfl)) dX5_literal_110 ⟨Nat.le_of_ble_eq_true rfl, Nat.le_of_ble_eq_true rfl⟩) (fun hp445 H locs hq448 hw hS => ?_)
        obtain ⟨ok446, F447⟩ := hq448
        have hw : PW G cy K ln Ls A hp445 H := hw
        exact jn424 hp445 0 _ _ ls ok446 (Fr.tr (Fr.tr (Fr.rf) F434 (by decide)) F447 (by decide)) (lv_sub hl [4, 1] rfl) hw hS
      · skip
        have bd450 : (0 : Int) ≤ zi441.toInt ∧ zi441.toInt ≤ 5 := r_le_y (Int32.not_lt.mp cn443) bc_0 bd442 (by decide) (by decide)
        refine lv_iload hx hb dX5_literal_91 (lv_at hl 0 rfl) ?_
        refine lv_bipush (v := 6) hx hb dX5_literal_93 (by decide) ?_
        refine lv_icmp_ge (tgt := 108) hx hb dX5_literal_95 (by decide) (fun c => absurd c (d_nle bc_6 bd450 (by decide))) (fun _ => ?_)
        refine va_getsN hx hb hE.2.1 hS hown (hK.fl nw_820) (fun _ h9 => h9) dX5_literal_98 ?_
        refine lv_iload hx hb dX5_literal_101 (lv_at hl 0 rfl) ?_
        obtain ⟨wl451, _⟩ : ∃ w : Int64, w = ev.2.2 (zi441 : Int32).toNatClampNeg := ⟨_, rfl⟩
        refine va_tl (v := .long (ev.2.2 (zi441 : Int32).toNatClampNeg)) hx hb hE.2.2 hS (vp_b bd450 (by decide) (by decide)) rfl dX5_literal_103 (lv_topl (fun wl451x _ => ?_))
        refine lv_lstore_n (lv' := [(3, .long wl451x), (5, .int zi441), (0, .ref qa900), (1, .int zi901), (2, .int zi336)]) hx hb dX5_literal_104 rfl hl (by decide) rfl (fun ls hl => ?_)
        refine lv_goto (tgt := 113) hx hb dX5_literal_105 (by decide) ?_
        exact jn424 hp432 wl451x _ _ ls ok433 (Fr.tr (Fr.rf) F434 (by decide)) (lv_sub hl [4, 0] rfl) hw hS
    · skip
      have bd452 : (40 : Int) ≤ zi343.toInt ∧ zi343.toInt ≤ 40 := r_eq_x cn344 (b_all zi343) bc_40 (by decide) (by decide)
      refine lv_aload_n hx hb dX5_literal_47 rfl (lv_at hl 1 rfl) ?_
      refine lv_iload_n hx hb dX5_literal_48 rfl (lv_at hl 2 rfl) ?_
      refine kq_i hw hS hA (va_runV (As := [.int zi901]) (rest := []) ⟨hx, hb, hml, hown, hT⟩ (cX5_enter_5 l G cy ev K ln Ls hW _ hp337 ok339 qa900 zi901 kd900 (b_wid2 bd901 (by decide) (by decide))) (cwV 1 hT (good_V tb_922 tb_919 tb_921 tb_18 tb_109) rfl rfl rfl (by decide +kernel) ⟨Nat.le_of_ble_eq_true rfl, Nat.le_of_ble_eq_true rfl⟩) (pool_preV (ci := 5) hK hE hS hA hw hW kd900 (by decide) rfl) rfl rfl hl.1 rfl (lv_room (Nat.le_of_ble_eq_true rfl)) dX5_literal_49 ⟨Nat.le_of_ble_eq_true rfl, Nat.le_of_ble_eq_true rfl⟩) (fun zi457 hp453 H locs hq456 hw hS => ?_)
      obtain ⟨ok454, F455, bd458, hc459, hc460⟩ := hq456
      have hw : PW G cy K ln Ls A hp453 H := hw
      have jn482 : ∀ (hp479 : Nat → Nat → Value) (wl478 : Int64) (H : Heap) (locs : List Loc) (ls : Array Slot), Ok K hp479 → Fr [6002, 6003, 6004, 6005, 6006] K hp453 hp479 → lv_has ls 6 [(0, .ref qa900), (2, .int zi336), (3, .long wl478)] → PW G cy K ln Ls A hp479 H → va_S A s.heap H locs → W p l e ({ frames := 5, cells := 0, slots := 0, locals := 119 } : Room) s m ([.ref qa900, .int zi901] : List Value).toArray below meth c H locs 0 0 Q (F0 m 63 ls []) := by
        intro hp479 wl478 H locs ls ok481 F480 hl hw hS
        refine lv_aload_n hx hb dX5_literal_63 rfl (lv_at hl 0 rfl) ?_
        refine lv_bipush (v := 41) hx hb dX5_literal_64 (by decide) ?_
        refine kq_v hw hS hA (va_runV (As := [.int 41]) (rest := []) ⟨hx, hb, hml, hown, hT⟩ (cX5_expect_0 l G cy ev K ln Ls hW _ hp479 ok481 qa900 41 kd900) (cwV 1 hT (good_V tb_889 tb_886 tb_888 tb_12 tb_109) rfl rfl rfl (by decide +kernel) ⟨Nat.le_of_ble_eq_true rfl, Nat.le_of_ble_eq_true rfl⟩) (pool_preV (ci := 5) hK hE hS hA hw hW kd900 (by decide) rfl) rfl rfl hl.1 rfl (lv_room (Nat.le_of_ble_eq_true rfl)) dX5_literal_66 ⟨Nat.le_of_ble_eq_true rfl, Nat.le_of_ble_eq_true rfl⟩) (fun hp483 H locs hq486 hw hS => ?_)
        obtain ⟨ok484, F485⟩ := hq486
        have hw : PW G cy K ln Ls A hp483 H := hw
        refine lv_goto (tgt := 113) hx hb dX5_literal_69 (by decide) ?_
        exact jn424 hp483 wl478 _ _ ls ok484 (Fr.tr (Fr.tr (Fr.tr (Fr.rf) F455 (by decide)) F480 (by decide)) F485 (by decide)) (lv_sub hl [1, 2] rfl) hw hS
      rcases b01 bd458 with cn461 | cn461
      · skip
        subst cn461
        refine lv_if_eq (tgt := 63) hx hb dX5_literal_52 (by decide) (fun _ => ?_) (fun c => absurd (d_eq bc_0 bc_0) c)
        exact jn482 hp453 0 _ _ ls ok454 (Fr.rf) (lv_sub hl [1, 3, 0] rfl) hw hS
      · skip
        subst cn461
        obtain ⟨zi488, eq489, bd490⟩ := hc459 rfl
        obtain ⟨zi491, eq492, bd493⟩ := hc460 rfl
        refine lv_if_eq (tgt := 63) hx hb dX5_literal_52 (by decide) (fun c => absurd c (d_ne bc_1 bc_0 (by decide))) (fun _ => ?_)
        refine lv_aload_n hx hb dX5_literal_55 rfl (lv_at hl 1 rfl) ?_
        refine lv_iload_n hx hb dX5_literal_56 rfl (lv_at hl 2 rfl) ?_
        refine lv_iconst (v := 1) hx hb dX5_literal_57 (by decide) ?_
        refine lv_iadd hx hb dX5_literal_58 (lv_topi (fun zi494 ea495 => ?_))
        have bd496 : (6 : Int) ≤ zi494.toInt ∧ zi494.toInt ≤ 6 := b_iadd ea495 bd901 bc_1 (by decide) (by decide) (by decide) (by decide)
        have qe497 : zi494.toInt = (zi901 : Int32).toInt + (1 : Int32).toInt := e_iadd ea495 bd901 bc_1 (by decide) (by decide)
        have qe498 : zi494.toInt = zi901.toInt + 1 := by have ha : (1 : Int32).toInt = 1 := (by decide); rw [ha] at qe497; exact qe497
        refine kq_l hw hS hA (va_runV (As := [.int zi494]) (rest := []) ⟨hx, hb, hml, hown, hT⟩ (cX5_cond_0 l G cy ev K ln Ls hW _ hp453 ok454 qa900 zi494 kd900 (b_wid2 bd496 (by decide) (by decide))) (cwV 1 hT (good_V tb_910 tb_907 tb_909 tb_15 tb_109) rfl rfl rfl (by decide +kernel) ⟨Nat.le_of_ble_eq_true rfl, Nat.le_of_ble_eq_true rfl⟩) (pool_preV (ci := 5) hK hE hS hA hw hW kd900 (by decide) rfl) rfl rfl hl.1 rfl (lv_room (Nat.le_of_ble_eq_true rfl)) dX5_literal_59 ⟨Nat.le_of_ble_eq_true rfl, Nat.le_of_ble_eq_true rfl⟩) (fun wl503 hp499 H locs hq502 hw hS => ?_)
        obtain ⟨ok500, F501⟩ := hq502
        have hw : PW G cy K ln Ls A hp499 H := hw
        refine lv_lstore_n (lv' := [(3, .long wl503), (0, .ref qa900), (1, .int zi901), (2, .int zi336)]) hx hb dX5_literal_62 rfl hl (by decide) rfl (fun ls hl => ?_)
        exact jn482 hp499 wl503 _ _ ls ok500 (Fr.tr (Fr.rf) F501 (by decide)) (lv_sub hl [1, 3, 0] rfl) hw hS
  have lp506 : ∀ (n504 : Nat) (hp269 : Nat → Nat → Value) (zi267 : Int32) (zi268 : Int32) (H : Heap) (locs : List Loc) (ls : Array Slot), 401 - zi268.toInt < (n504 : Int) → Ok K hp269 → Fr [6002, 6003, 6004] K hp0 hp269 → ((0 : Int) ≤ zi267.toInt ∧ zi267.toInt ≤ 1) → ((0 : Int) ≤ zi268.toInt ∧ zi268.toInt ≤ 401) → lv_has ls 6 [(0, .ref qa900), (1, .int zi901), (2, .int zi267), (3, .int zi268)] → PW G cy K ln Ls A hp269 H → va_S A s.heap H locs → W p l e ({ frames := 5, cells := 0, slots := 0, locals := 119 } : Room) s m ([.ref qa900, .int zi901] : List Value).toArray below meth c H locs 0 0 Q (F0 m 4 ls []) := by
    intro n504
    induction n504 with
    | zero =>
      intro hp269 zi267 zi268 H locs ls hm507 ok271 F270 bd272 bd273 hl hw hS
      exact absurd hm507 (by have := bd273; omega)
    | succ n504 ih505 =>
      intro hp269 zi267 zi268 H locs ls hm507 ok271 F270 bd272 bd273 hl hw hS
      refine lv_iload_n hx hb dX5_literal_4 rfl (lv_at hl 3 rfl) ?_
      refine lv_sipush (v := 400) hx hb dX5_literal_5 (by decide) ?_
      refine lv_icmp_gt (tgt := 36) hx hb dX5_literal_8 (by decide) (fun cn508 => ?_) (fun cn508 => ?_)
      · skip
        have bd509 : (401 : Int) ≤ zi268.toInt ∧ zi268.toInt ≤ 401 := r_lt_y cn508 bc_400 bd273 (by decide) (by decide)
        exact jn341 hp269 zi267 _ _ ls ok271 (Fr.tr (Fr.rf) F270 (by decide)) (b_wid2 bd272 (by decide) (by decide)) (lv_sub hl [0, 1, 2] rfl) hw hS
      · skip
        have bd510 : (0 : Int) ≤ zi268.toInt ∧ zi268.toInt ≤ 400 := r_le_x (Int32.not_lt.mp cn508) bd273 bc_400 (by decide) (by decide)
        refine lv_aload_n hx hb dX5_literal_11 rfl (lv_at hl 0 rfl) ?_
        refine lv_bipush (v := 113) hx hb dX5_literal_12 (by decide) ?_
        refine kq_i hw hS hA (va_runV (As := [.int 113]) (rest := []) ⟨hx, hb, hml, hown, hT⟩ (cX5_accept_0 l G cy ev K ln Ls hW _ hp269 ok271 qa900 113 kd900) (cwV 1 hT (good_V tb_854 tb_851 tb_853 tb_8 tb_109) rfl rfl rfl (by decide +kernel) ⟨Nat.le_of_ble_eq_true rfl, Nat.le_of_ble_eq_true rfl⟩) (pool_preV (ci := 5) hK hE hS hA hw hW kd900 (by decide) rfl) rfl rfl hl.1 rfl (lv_room (Nat.le_of_ble_eq_true rfl)) dX5_literal_14 ⟨Nat.le_of_ble_eq_true rfl, Nat.le_of_ble_eq_true rfl⟩) (fun zi515 hp511 H locs hq514 hw hS => ?_)
        obtain ⟨ok512, F513, bd516, hc517, hc518⟩ := hq514
        have hw : PW G cy K ln Ls A hp511 H := hw
        rcases b01 bd516 with cn519 | cn519
        · skip
          subst cn519
          refine lv_if_eq (tgt := 36) hx hb dX5_literal_17 (by decide) (fun _ => ?_) (fun c => absurd (d_eq bc_0 bc_0) c)
          exact jn341 hp511 zi267 _ _ ls ok512 (Fr.tr (Fr.tr (Fr.rf) F270 (by decide)) F513 (by decide)) (b_wid2 bd272 (by decide) (by decide)) (lv_sub hl [0, 1, 2] rfl) hw hS
        · skip
          subst cn519
          obtain ⟨zi520, eq521, bd522⟩ := hc517 rfl
          obtain ⟨zi523, eq524, bd525⟩ := hc518 rfl
          refine lv_if_eq (tgt := 36) hx hb dX5_literal_17 (by decide) (fun c => absurd c (d_ne bc_1 bc_0 (by decide))) (fun _ => ?_)
          refine lv_iload_n hx hb dX5_literal_20 rfl (lv_at hl 2 rfl) ?_
          have jn531 : ∀ (zi529 : Int32) (H : Heap) (locs : List Loc) (ls : Array Slot), ((0 : Int) ≤ zi529.toInt ∧ zi529.toInt ≤ 1) → lv_has ls 6 [(0, .ref qa900), (1, .int zi901), (3, .int zi268)] → PW G cy K ln Ls A hp511 H → va_S A s.heap H locs → W p l e ({ frames := 5, cells := 0, slots := 0, locals := 119 } : Room) s m ([.ref qa900, .int zi901] : List Value).toArray below meth c H locs 0 0 Q (F0 m 29 ls [.int zi529]) := by
            intro zi529 H locs ls bd530 hl hw hS
            refine lv_istore_n (lv' := [(2, .int zi529), (0, .ref qa900), (1, .int zi901), (3, .int zi268)]) hx hb dX5_literal_29 rfl hl (by decide) rfl (fun ls hl => ?_)
            obtain ⟨zi532, ea533⟩ : ∃ z : Int32, z = zi268 + 1 := ⟨_, rfl⟩
            have bd534 : (1 : Int) ≤ zi532.toInt ∧ zi532.toInt ≤ 401 := b_iadd ea533 bd510 bc_1 (by decide) (by decide) (by decide) (by decide)
            have qe535 : zi532.toInt = (zi268 : Int32).toInt + (1 : Int32).toInt := e_iadd ea533 bd510 bc_1 (by decide) (by decide)
            have qe536 : zi532.toInt = zi268.toInt + 1 := by have ha : (1 : Int32).toInt = 1 := (by decide); rw [ha] at qe535; exact qe535
            refine lv_iinc (v := zi532) (lv' := [(3, .int zi532), (2, .int zi529), (0, .ref qa900), (1, .int zi901)]) hx hb dX5_literal_30 hl (k := 3) rfl ea533.symm (by decide) rfl (fun ls hl => ?_)
            refine lv_goto (tgt := 4) hx hb dX5_literal_33 (by decide) ?_
            exact ih505 hp511 zi529 zi532 _ _ ls (by have := hm507; have := qe536; omega) ok512 (Fr.tr (Fr.tr (Fr.rf) F270 (by decide)) F513 (by decide)) (b_wid2 bd530 (by decide) (by decide)) (b_wid2 bd534 (by decide) (by decide)) (lv_sub hl [2, 3, 1, 0] rfl) hw hS
          refine lv_if_ne (tgt := 28) hx hb dX5_literal_21 (by decide) (fun cn526 => ?_) (fun cn526 => ?_)
          · skip
            have bd537 : (1 : Int) ≤ zi267.toInt ∧ zi267.toInt ≤ 1 := r_ne_lo cn526 bd272 (toi bc_0) (by decide) (by decide)
            refine lv_iconst (v := 0) hx hb dX5_literal_28 (by decide) ?_
            exact jn531 0 _ _ ls (b_wid2 bc_0 (by decide) (by decide)) (lv_sub hl [0, 1, 3] rfl) hw hS
          · skip
            have bd538 : (0 : Int) ≤ zi267.toInt ∧ zi267.toInt ≤ 0 := r_eq_x cn526 bd272 bc_0 (by decide) (by decide)
            refine lv_iconst (v := 1) hx hb dX5_literal_24 (by decide) ?_
            refine lv_goto (tgt := 29) hx hb dX5_literal_25 (by decide) ?_
            exact jn531 1 _ _ ls (b_wid2 bc_1 (by decide) (by decide)) (lv_sub hl [0, 1, 3] rfl) hw hS
  exact lp506 _ hp0 0 0 _ _ ls (lp_in _) ok0 (Fr.rf) (b_wid2 bc_0 (by decide) (by decide)) (b_wid2 bc_0 (by decide) (by decide)) (lv_sub hl [2, 3, 1, 0] rfl) hw hS

set_option maxRecDepth 100000 in
set_option maxHeartbeats 4000000 in
theorem cX5_all_1 (l : Launch) (G : va_G) (cy : Nat → ClassId) (ev : Ew) (K ln : Nat → Nat) (Ls : List Nat) (hW : SW K ln Ls) (sz : Nat) (hp0 : Nat → Nat → Value) (ok0 : Ok K hp0) (qa900 : Nat) (zi901 : Int32) (kd900 : K qa900 = 6) (bd901 : ((5 : Int) ≤ zi901.toInt ∧ zi901.toInt ≤ 5)) : Met l yX5_all (WS yX5_all cX5_all 5 (some .long)) { frames := 6, cells := 0, slots := 0, locals := 144 } (PB2 [.ref qa900, .int zi901] sz G cy ev (va_pl Ls (cellOf cy K ln hp0))) (QBl (S := (Nat → Nat → Value)) (fun (r : Int64) (u : (Nat → Nat → Value)) => Ok K u ∧ Fr [6002, 6003, 6004, 6005, 6006] K hp0 u) G (fun u => va_pl Ls (cellOf cy K ln u)) (va_A (va_pl Ls (cellOf cy K ln hp0)) sz)) 0 0 (va_A (va_pl Ls (cellOf cy K ln hp0)) sz) := by
  refine met_of2 (y := yX5_all) (L := 5) (av := [.ref qa900, .int zi901]) (Qc := fun A => QBl (S := (Nat → Nat → Value)) (fun (r : Int64) (u : (Nat → Nat → Value)) => Ok K u ∧ Fr [6002, 6003, 6004, 6005, 6006] K hp0 u) G (fun u => va_pl Ls (cellOf cy K ln u)) A) (plainFor_of_name (by decide)) (Nat.le_of_ble_eq_true rfl) ?_
  intro p e s m below meth c hsz hx hb hr hml hown hT hlocks hin hK A hA hE hw hS ls hl
  have hw : PW G cy K ln Ls A hp0 s.heap := hw
  have hown : s.vm.findClass "LieClock$Parser" = some m.cls := hown
  have hl : lv_has ls 5 [(0, .ref qa900), (1, .int zi901)] := hl
  obtain ⟨Q, hQ⟩ : ∃ Q : State → Prop, Q = MQ below (QBl (S := (Nat → Nat → Value)) (fun (r : Int64) (u : (Nat → Nat → Value)) => Ok K u ∧ Fr [6002, 6003, 6004, 6005, 6006] K hp0 u) G (fun u => va_pl Ls (cellOf cy K ln u)) A) ([.ref qa900, .int zi901] : List Value).toArray s 0 0 A := ⟨_, rfl⟩
  rw [← hQ]
  refine lv_aload_n hx hb dX5_all_0 rfl (lv_at hl 0 rfl) ?_
  refine lv_iload_n hx hb dX5_all_1 rfl (lv_at hl 1 rfl) ?_
  refine kq_l hw hS hA (va_runV (As := [.int zi901]) (rest := []) ⟨hx, hb, hml, hown, hT⟩ (cX5_literal_1 l G cy ev K ln Ls hW _ hp0 ok0 qa900 zi901 kd900 (b_wid2 bd901 (by decide) (by decide))) (cwV 1 hT (good_V tb_918 tb_915 tb_917 tb_17 tb_109) rfl rfl rfl (by decide +kernel) ⟨Nat.le_of_ble_eq_true rfl, Nat.le_of_ble_eq_true rfl⟩) (pool_preV (ci := 5) hK hE hS hA hw hW kd900 (by decide) rfl) rfl rfl hl.1 rfl (lv_room (Nat.le_of_ble_eq_true rfl)) dX5_all_2 ⟨Nat.le_of_ble_eq_true rfl, Nat.le_of_ble_eq_true rfl⟩) (fun wl5 hp1 H locs hq4 hw hS => ?_)
  obtain ⟨ok2, F3⟩ := hq4
  have hw : PW G cy K ln Ls A hp1 H := hw
  refine lv_lstore_n (lv' := [(2, .long wl5), (0, .ref qa900), (1, .int zi901)]) hx hb dX5_all_5 rfl hl (by decide) rfl (fun ls hl => ?_)
  refine lv_iconst (v := 0) hx hb dX5_all_6 (by decide) ?_
  refine lv_istore (lv' := [(4, .int 0), (2, .long wl5), (0, .ref qa900), (1, .int zi901)]) hx hb dX5_all_7 hl (by decide) rfl (fun ls hl => ?_)
  have jn325 : ∀ (hp322 : Nat → Nat → Value) (wl321 : Int64) (H : Heap) (locs : List Loc) (ls : Array Slot), Ok K hp322 → Fr [6002, 6003, 6004, 6005, 6006] K hp1 hp322 → lv_has ls 5 [(2, .long wl321)] → PW G cy K ln Ls A hp322 H → va_S A s.heap H locs → W p l e ({ frames := 6, cells := 0, slots := 0, locals := 144 } : Room) s m ([.ref qa900, .int zi901] : List Value).toArray below meth c H locs 0 0 Q (F0 m 40 ls []) := by
    intro hp322 wl321 H locs ls ok324 F323 hl hw hS
    refine lv_lload_n hx hb dX5_all_40 rfl (lv_at hl 0 rfl) ?_
    rw [hQ]
    exact kz_l hx hb hr hlocks hS hp322 hw ⟨ok324, (Fr.tr (Fr.tr (Fr.rf) F3 (by decide)) F323 (by decide))⟩ (Nat.le_of_ble_eq_true rfl) (Nat.le_of_ble_eq_true rfl) dX5_all_41
  have lp328 : ∀ (n326 : Nat) (hp259 : Nat → Nat → Value) (wl257 : Int64) (zi258 : Int32) (H : Heap) (locs : List Loc) (ls : Array Slot), 401 - zi258.toInt < (n326 : Int) → Ok K hp259 → Fr [6002, 6003, 6004, 6005, 6006] K hp1 hp259 → ((0 : Int) ≤ zi258.toInt ∧ zi258.toInt ≤ 401) → lv_has ls 5 [(0, .ref qa900), (1, .int zi901), (2, .long wl257), (4, .int zi258)] → PW G cy K ln Ls A hp259 H → va_S A s.heap H locs → W p l e ({ frames := 6, cells := 0, slots := 0, locals := 144 } : Room) s m ([.ref qa900, .int zi901] : List Value).toArray below meth c H locs 0 0 Q (F0 m 9 ls []) := by
    intro n326
    induction n326 with
    | zero =>
      intro hp259 wl257 zi258 H locs ls hm329 ok261 F260 bd262 hl hw hS
      exact absurd hm329 (by have := bd262; omega)
    | succ n326 ih327 =>
      intro hp259 wl257 zi258 H locs ls hm329 ok261 F260 bd262 hl hw hS
      refine lv_iload hx hb dX5_all_9 (lv_at hl 3 rfl) ?_
      refine lv_sipush (v := 400) hx hb dX5_all_11 (by decide) ?_
      refine lv_icmp_gt (tgt := 40) hx hb dX5_all_14 (by decide) (fun cn330 => ?_) (fun cn330 => ?_)
      · skip
        have bd331 : (401 : Int) ≤ zi258.toInt ∧ zi258.toInt ≤ 401 := r_lt_y cn330 bc_400 bd262 (by decide) (by decide)
        exact jn325 hp259 wl257 _ _ ls ok261 (Fr.tr (Fr.rf) F260 (by decide)) (lv_sub hl [2] rfl) hw hS
      · skip
        have bd332 : (0 : Int) ≤ zi258.toInt ∧ zi258.toInt ≤ 400 := r_le_x (Int32.not_lt.mp cn330) bd262 bc_400 (by decide) (by decide)
        refine lv_aload_n hx hb dX5_all_17 rfl (lv_at hl 0 rfl) ?_
        refine lv_bipush (v := 112) hx hb dX5_all_18 (by decide) ?_
        refine kq_i hw hS hA (va_runV (As := [.int 112]) (rest := []) ⟨hx, hb, hml, hown, hT⟩ (cX5_accept_0 l G cy ev K ln Ls hW _ hp259 ok261 qa900 112 kd900) (cwV 1 hT (good_V tb_854 tb_851 tb_853 tb_8 tb_109) rfl rfl rfl (by decide +kernel) ⟨Nat.le_of_ble_eq_true rfl, Nat.le_of_ble_eq_true rfl⟩) (pool_preV (ci := 5) hK hE hS hA hw hW kd900 (by decide) rfl) rfl rfl hl.1 rfl (lv_room (Nat.le_of_ble_eq_true rfl)) dX5_all_20 ⟨Nat.le_of_ble_eq_true rfl, Nat.le_of_ble_eq_true rfl⟩) (fun zi337 hp333 H locs hq336 hw hS => ?_)
        obtain ⟨ok334, F335, bd338, hc339, hc340⟩ := hq336
        have hw : PW G cy K ln Ls A hp333 H := hw
        rcases b01 bd338 with cn341 | cn341
        · skip
          subst cn341
          refine lv_if_eq (tgt := 40) hx hb dX5_all_23 (by decide) (fun _ => ?_) (fun c => absurd (d_eq bc_0 bc_0) c)
          exact jn325 hp333 wl257 _ _ ls ok334 (Fr.tr (Fr.tr (Fr.rf) F260 (by decide)) F335 (by decide)) (lv_sub hl [2] rfl) hw hS
        · skip
          subst cn341
          obtain ⟨zi342, eq343, bd344⟩ := hc339 rfl
          obtain ⟨zi345, eq346, bd347⟩ := hc340 rfl
          refine lv_if_eq (tgt := 40) hx hb dX5_all_23 (by decide) (fun c => absurd c (d_ne bc_1 bc_0 (by decide))) (fun _ => ?_)
          refine lv_lload_n hx hb dX5_all_26 rfl (lv_at hl 2 rfl) ?_
          refine lv_aload_n hx hb dX5_all_27 rfl (lv_at hl 0 rfl) ?_
          refine lv_iload_n hx hb dX5_all_28 rfl (lv_at hl 1 rfl) ?_
          refine kq_l hw hS hA (va_runV (As := [.int zi901]) (rest := [.long wl257]) ⟨hx, hb, hml, hown, hT⟩ (cX5_literal_1 l G cy ev K ln Ls hW _ hp333 ok334 qa900 zi901 kd900 (b_wid2 bd901 (by decide) (by decide))) (cwV 1 hT (good_V tb_918 tb_915 tb_917 tb_17 tb_109) rfl rfl rfl (by decide +kernel) ⟨Nat.le_of_ble_eq_true rfl, Nat.le_of_ble_eq_true rfl⟩) (pool_preV (ci := 5) hK hE hS hA hw hW kd900 (by decide) rfl) rfl rfl hl.1 rfl (lv_room (Nat.le_of_ble_eq_true rfl)) dX5_all_29 ⟨Nat.le_of_ble_eq_true rfl, Nat.le_of_ble_eq_true rfl⟩) (fun wl352 hp348 H locs hq351 hw hS => ?_)
          obtain ⟨ok349, F350⟩ := hq351
          have hw : PW G cy K ln Ls A hp348 H := hw
          refine lv_land hx hb dX5_all_32 (lv_topl (fun wl353 _ => ?_))
          refine lv_lstore_n (lv' := [(2, .long wl353), (0, .ref qa900), (1, .int zi901), (4, .int zi258)]) hx hb dX5_all_33 rfl hl (by decide) rfl (fun ls hl => ?_)
          obtain ⟨zi354, ea355⟩ : ∃ z : Int32, z = zi258 + 1 := ⟨_, rfl⟩
          have bd356 : (1 : Int) ≤ zi354.toInt ∧ zi354.toInt ≤ 401 := b_iadd ea355 bd332 bc_1 (by decide) (by decide) (by decide) (by decide)
          have qe357 : zi354.toInt = (zi258 : Int32).toInt + (1 : Int32).toInt := e_iadd ea355 bd332 bc_1 (by decide) (by decide)
          have qe358 : zi354.toInt = zi258.toInt + 1 := by have ha : (1 : Int32).toInt = 1 := (by decide); rw [ha] at qe357; exact qe357
          refine lv_iinc (v := zi354) (lv' := [(4, .int zi354), (2, .long wl353), (0, .ref qa900), (1, .int zi901)]) hx hb dX5_all_34 hl (k := 3) rfl ea355.symm (by decide) rfl (fun ls hl => ?_)
          refine lv_goto (tgt := 9) hx hb dX5_all_37 (by decide) ?_
          exact ih327 hp348 wl353 zi354 _ _ ls (by have := hm329; have := qe358; omega) ok349 (Fr.tr (Fr.tr (Fr.tr (Fr.rf) F260 (by decide)) F335 (by decide)) F350 (by decide)) (b_wid2 bd356 (by decide) (by decide)) (lv_sub hl [2, 3, 1, 0] rfl) hw hS
  exact lp328 _ hp1 wl5 0 _ _ ls (lp_in _) ok2 (Fr.rf) (b_wid2 bc_0 (by decide) (by decide)) (lv_sub hl [2, 3, 1, 0] rfl) hw hS

set_option maxRecDepth 100000 in
set_option maxHeartbeats 4000000 in
theorem cX5_cond_1 (l : Launch) (G : va_G) (cy : Nat → ClassId) (ev : Ew) (K ln : Nat → Nat) (Ls : List Nat) (hW : SW K ln Ls) (sz : Nat) (hp0 : Nat → Nat → Value) (ok0 : Ok K hp0) (qa900 : Nat) (zi901 : Int32) (kd900 : K qa900 = 6) (bd901 : ((5 : Int) ≤ zi901.toInt ∧ zi901.toInt ≤ 5)) : Met l yX5_cond (WS yX5_cond cX5_cond 5 (some .long)) { frames := 7, cells := 0, slots := 0, locals := 168 } (PB2 [.ref qa900, .int zi901] sz G cy ev (va_pl Ls (cellOf cy K ln hp0))) (QBl (S := (Nat → Nat → Value)) (fun (r : Int64) (u : (Nat → Nat → Value)) => Ok K u ∧ Fr [6002, 6003, 6004, 6005, 6006] K hp0 u) G (fun u => va_pl Ls (cellOf cy K ln u)) (va_A (va_pl Ls (cellOf cy K ln hp0)) sz)) 0 0 (va_A (va_pl Ls (cellOf cy K ln hp0)) sz) := by
  refine met_of2 (y := yX5_cond) (L := 5) (av := [.ref qa900, .int zi901]) (Qc := fun A => QBl (S := (Nat → Nat → Value)) (fun (r : Int64) (u : (Nat → Nat → Value)) => Ok K u ∧ Fr [6002, 6003, 6004, 6005, 6006] K hp0 u) G (fun u => va_pl Ls (cellOf cy K ln u)) A) (plainFor_of_name (by decide)) (Nat.le_of_ble_eq_true rfl) ?_
  intro p e s m below meth c hsz hx hb hr hml hown hT hlocks hin hK A hA hE hw hS ls hl
  have hw : PW G cy K ln Ls A hp0 s.heap := hw
  have hown : s.vm.findClass "LieClock$Parser" = some m.cls := hown
  have hl : lv_has ls 5 [(0, .ref qa900), (1, .int zi901)] := hl
  obtain ⟨Q, hQ⟩ : ∃ Q : State → Prop, Q = MQ below (QBl (S := (Nat → Nat → Value)) (fun (r : Int64) (u : (Nat → Nat → Value)) => Ok K u ∧ Fr [6002, 6003, 6004, 6005, 6006] K hp0 u) G (fun u => va_pl Ls (cellOf cy K ln u)) A) ([.ref qa900, .int zi901] : List Value).toArray s 0 0 A := ⟨_, rfl⟩
  rw [← hQ]
  refine lv_aload_n hx hb dX5_cond_0 rfl (lv_at hl 0 rfl) ?_
  refine lv_iload_n hx hb dX5_cond_1 rfl (lv_at hl 1 rfl) ?_
  refine kq_l hw hS hA (va_runV (As := [.int zi901]) (rest := []) ⟨hx, hb, hml, hown, hT⟩ (cX5_all_1 l G cy ev K ln Ls hW _ hp0 ok0 qa900 zi901 kd900 (b_wid2 bd901 (by decide) (by decide))) (cwV 1 hT (good_V tb_914 tb_911 tb_913 tb_16 tb_109) rfl rfl rfl (by decide +kernel) ⟨Nat.le_of_ble_eq_true rfl, Nat.le_of_ble_eq_true rfl⟩) (pool_preV (ci := 5) hK hE hS hA hw hW kd900 (by decide) rfl) rfl rfl hl.1 rfl (lv_room (Nat.le_of_ble_eq_true rfl)) dX5_cond_2 ⟨Nat.le_of_ble_eq_true rfl, Nat.le_of_ble_eq_true rfl⟩) (fun wl5 hp1 H locs hq4 hw hS => ?_)
  obtain ⟨ok2, F3⟩ := hq4
  have hw : PW G cy K ln Ls A hp1 H := hw
  refine lv_lstore_n (lv' := [(2, .long wl5), (0, .ref qa900), (1, .int zi901)]) hx hb dX5_cond_5 rfl hl (by decide) rfl (fun ls hl => ?_)
  refine lv_iconst (v := 0) hx hb dX5_cond_6 (by decide) ?_
  refine lv_istore (lv' := [(4, .int 0), (2, .long wl5), (0, .ref qa900), (1, .int zi901)]) hx hb dX5_cond_7 hl (by decide) rfl (fun ls hl => ?_)
  have jn325 : ∀ (hp322 : Nat → Nat → Value) (wl321 : Int64) (H : Heap) (locs : List Loc) (ls : Array Slot), Ok K hp322 → Fr [6002, 6003, 6004, 6005, 6006] K hp1 hp322 → lv_has ls 5 [(2, .long wl321)] → PW G cy K ln Ls A hp322 H → va_S A s.heap H locs → W p l e ({ frames := 7, cells := 0, slots := 0, locals := 168 } : Room) s m ([.ref qa900, .int zi901] : List Value).toArray below meth c H locs 0 0 Q (F0 m 40 ls []) := by
    intro hp322 wl321 H locs ls ok324 F323 hl hw hS
    refine lv_lload_n hx hb dX5_cond_40 rfl (lv_at hl 0 rfl) ?_
    rw [hQ]
    exact kz_l hx hb hr hlocks hS hp322 hw ⟨ok324, (Fr.tr (Fr.tr (Fr.rf) F3 (by decide)) F323 (by decide))⟩ (Nat.le_of_ble_eq_true rfl) (Nat.le_of_ble_eq_true rfl) dX5_cond_41
  have lp328 : ∀ (n326 : Nat) (hp259 : Nat → Nat → Value) (wl257 : Int64) (zi258 : Int32) (H : Heap) (locs : List Loc) (ls : Array Slot), 401 - zi258.toInt < (n326 : Int) → Ok K hp259 → Fr [6002, 6003, 6004, 6005, 6006] K hp1 hp259 → ((0 : Int) ≤ zi258.toInt ∧ zi258.toInt ≤ 401) → lv_has ls 5 [(0, .ref qa900), (1, .int zi901), (2, .long wl257), (4, .int zi258)] → PW G cy K ln Ls A hp259 H → va_S A s.heap H locs → W p l e ({ frames := 7, cells := 0, slots := 0, locals := 168 } : Room) s m ([.ref qa900, .int zi901] : List Value).toArray below meth c H locs 0 0 Q (F0 m 9 ls []) := by
    intro n326
    induction n326 with
    | zero =>
      intro hp259 wl257 zi258 H locs ls hm329 ok261 F260 bd262 hl hw hS
      exact absurd hm329 (by have := bd262; omega)
    | succ n326 ih327 =>
      intro hp259 wl257 zi258 H locs ls hm329 ok261 F260 bd262 hl hw hS
      refine lv_iload hx hb dX5_cond_9 (lv_at hl 3 rfl) ?_
      refine lv_sipush (v := 400) hx hb dX5_cond_11 (by decide) ?_
      refine lv_icmp_gt (tgt := 40) hx hb dX5_cond_14 (by decide) (fun cn330 => ?_) (fun cn330 => ?_)
      · skip
        have bd331 : (401 : Int) ≤ zi258.toInt ∧ zi258.toInt ≤ 401 := r_lt_y cn330 bc_400 bd262 (by decide) (by decide)
        exact jn325 hp259 wl257 _ _ ls ok261 (Fr.tr (Fr.rf) F260 (by decide)) (lv_sub hl [2] rfl) hw hS
      · skip
        have bd332 : (0 : Int) ≤ zi258.toInt ∧ zi258.toInt ≤ 400 := r_le_x (Int32.not_lt.mp cn330) bd262 bc_400 (by decide) (by decide)
        refine lv_aload_n hx hb dX5_cond_17 rfl (lv_at hl 0 rfl) ?_
        refine lv_bipush (v := 111) hx hb dX5_cond_18 (by decide) ?_
        refine kq_i hw hS hA (va_runV (As := [.int 111]) (rest := []) ⟨hx, hb, hml, hown, hT⟩ (cX5_accept_0 l G cy ev K ln Ls hW _ hp259 ok261 qa900 111 kd900) (cwV 1 hT (good_V tb_854 tb_851 tb_853 tb_8 tb_109) rfl rfl rfl (by decide +kernel) ⟨Nat.le_of_ble_eq_true rfl, Nat.le_of_ble_eq_true rfl⟩) (pool_preV (ci := 5) hK hE hS hA hw hW kd900 (by decide) rfl) rfl rfl hl.1 rfl (lv_room (Nat.le_of_ble_eq_true rfl)) dX5_cond_20 ⟨Nat.le_of_ble_eq_true rfl, Nat.le_of_ble_eq_true rfl⟩) (fun zi337 hp333 H locs hq336 hw hS => ?_)
        obtain ⟨ok334, F335, bd338, hc339, hc340⟩ := hq336
        have hw : PW G cy K ln Ls A hp333 H := hw
        rcases b01 bd338 with cn341 | cn341
        · skip
          subst cn341
          refine lv_if_eq (tgt := 40) hx hb dX5_cond_23 (by decide) (fun _ => ?_) (fun c => absurd (d_eq bc_0 bc_0) c)
          exact jn325 hp333 wl257 _ _ ls ok334 (Fr.tr (Fr.tr (Fr.rf) F260 (by decide)) F335 (by decide)) (lv_sub hl [2] rfl) hw hS
        · skip
          subst cn341
          obtain ⟨zi342, eq343, bd344⟩ := hc339 rfl
          obtain ⟨zi345, eq346, bd347⟩ := hc340 rfl
          refine lv_if_eq (tgt := 40) hx hb dX5_cond_23 (by decide) (fun c => absurd c (d_ne bc_1 bc_0 (by decide))) (fun _ => ?_)
          refine lv_lload_n hx hb dX5_cond_26 rfl (lv_at hl 2 rfl) ?_
          refine lv_aload_n hx hb dX5_cond_27 rfl (lv_at hl 0 rfl) ?_
          refine lv_iload_n hx hb dX5_cond_28 rfl (lv_at hl 1 rfl) ?_
          refine kq_l hw hS hA (va_runV (As := [.int zi901]) (rest := [.long wl257]) ⟨hx, hb, hml, hown, hT⟩ (cX5_all_1 l G cy ev K ln Ls hW _ hp333 ok334 qa900 zi901 kd900 (b_wid2 bd901 (by decide) (by decide))) (cwV 1 hT (good_V tb_914 tb_911 tb_913 tb_16 tb_109) rfl rfl rfl (by decide +kernel) ⟨Nat.le_of_ble_eq_true rfl, Nat.le_of_ble_eq_true rfl⟩) (pool_preV (ci := 5) hK hE hS hA hw hW kd900 (by decide) rfl) rfl rfl hl.1 rfl (lv_room (Nat.le_of_ble_eq_true rfl)) dX5_cond_29 ⟨Nat.le_of_ble_eq_true rfl, Nat.le_of_ble_eq_true rfl⟩) (fun wl352 hp348 H locs hq351 hw hS => ?_)
          obtain ⟨ok349, F350⟩ := hq351
          have hw : PW G cy K ln Ls A hp348 H := hw
          refine lv_lor hx hb dX5_cond_32 (lv_topl (fun wl353 _ => ?_))
          refine lv_lstore_n (lv' := [(2, .long wl353), (0, .ref qa900), (1, .int zi901), (4, .int zi258)]) hx hb dX5_cond_33 rfl hl (by decide) rfl (fun ls hl => ?_)
          obtain ⟨zi354, ea355⟩ : ∃ z : Int32, z = zi258 + 1 := ⟨_, rfl⟩
          have bd356 : (1 : Int) ≤ zi354.toInt ∧ zi354.toInt ≤ 401 := b_iadd ea355 bd332 bc_1 (by decide) (by decide) (by decide) (by decide)
          have qe357 : zi354.toInt = (zi258 : Int32).toInt + (1 : Int32).toInt := e_iadd ea355 bd332 bc_1 (by decide) (by decide)
          have qe358 : zi354.toInt = zi258.toInt + 1 := by have ha : (1 : Int32).toInt = 1 := (by decide); rw [ha] at qe357; exact qe357
          refine lv_iinc (v := zi354) (lv' := [(4, .int zi354), (2, .long wl353), (0, .ref qa900), (1, .int zi901)]) hx hb dX5_cond_34 hl (k := 3) rfl ea355.symm (by decide) rfl (fun ls hl => ?_)
          refine lv_goto (tgt := 9) hx hb dX5_cond_37 (by decide) ?_
          exact ih327 hp348 wl353 zi354 _ _ ls (by have := hm329; have := qe358; omega) ok349 (Fr.tr (Fr.tr (Fr.tr (Fr.rf) F260 (by decide)) F335 (by decide)) F350 (by decide)) (b_wid2 bd356 (by decide) (by decide)) (lv_sub hl [2, 3, 1, 0] rfl) hw hS
  exact lp328 _ hp1 wl5 0 _ _ ls (lp_in _) ok2 (Fr.rf) (b_wid2 bc_0 (by decide) (by decide)) (lv_sub hl [2, 3, 1, 0] rfl) hw hS

set_option maxRecDepth 100000 in
set_option maxHeartbeats 4000000 in
theorem cX5_literal_2 (l : Launch) (G : va_G) (cy : Nat → ClassId) (ev : Ew) (K ln : Nat → Nat) (Ls : List Nat) (hW : SW K ln Ls) (sz : Nat) (hp0 : Nat → Nat → Value) (ok0 : Ok K hp0) (qa900 : Nat) (zi901 : Int32) (kd900 : K qa900 = 6) (bd901 : ((4 : Int) ≤ zi901.toInt ∧ zi901.toInt ≤ 4)) : Met l yX5_literal (WS yX5_literal cX5_literal 6 (some .long)) { frames := 8, cells := 0, slots := 0, locals := 192 } (PB2 [.ref qa900, .int zi901] sz G cy ev (va_pl Ls (cellOf cy K ln hp0))) (QBl (S := (Nat → Nat → Value)) (fun (r : Int64) (u : (Nat → Nat → Value)) => Ok K u ∧ Fr [6002, 6003, 6004, 6005, 6006] K hp0 u) G (fun u => va_pl Ls (cellOf cy K ln u)) (va_A (va_pl Ls (cellOf cy K ln hp0)) sz)) 0 0 (va_A (va_pl Ls (cellOf cy K ln hp0)) sz) := by
  refine met_of2 (y := yX5_literal) (L := 6) (av := [.ref qa900, .int zi901]) (Qc := fun A => QBl (S := (Nat → Nat → Value)) (fun (r : Int64) (u : (Nat → Nat → Value)) => Ok K u ∧ Fr [6002, 6003, 6004, 6005, 6006] K hp0 u) G (fun u => va_pl Ls (cellOf cy K ln u)) A) (plainFor_of_name (by decide)) (Nat.le_of_ble_eq_true rfl) ?_
  intro p e s m below meth c hsz hx hb hr hml hown hT hlocks hin hK A hA hE hw hS ls hl
  have hw : PW G cy K ln Ls A hp0 s.heap := hw
  have hown : s.vm.findClass "LieClock$Parser" = some m.cls := hown
  have hl : lv_has ls 6 [(0, .ref qa900), (1, .int zi901)] := hl
  obtain ⟨Q, hQ⟩ : ∃ Q : State → Prop, Q = MQ below (QBl (S := (Nat → Nat → Value)) (fun (r : Int64) (u : (Nat → Nat → Value)) => Ok K u ∧ Fr [6002, 6003, 6004, 6005, 6006] K hp0 u) G (fun u => va_pl Ls (cellOf cy K ln u)) A) ([.ref qa900, .int zi901] : List Value).toArray s 0 0 A := ⟨_, rfl⟩
  rw [← hQ]
  refine lv_iconst (v := 0) hx hb dX5_literal_0 (by decide) ?_
  refine lv_istore_n (lv' := [(2, .int 0), (0, .ref qa900), (1, .int zi901)]) hx hb dX5_literal_1 rfl hl (by decide) rfl (fun ls hl => ?_)
  refine lv_iconst (v := 0) hx hb dX5_literal_2 (by decide) ?_
  refine lv_istore_n (lv' := [(3, .int 0), (2, .int 0), (0, .ref qa900), (1, .int zi901)]) hx hb dX5_literal_3 rfl hl (by decide) rfl (fun ls hl => ?_)
  have jn341 : ∀ (hp337 : Nat → Nat → Value) (zi336 : Int32) (H : Heap) (locs : List Loc) (ls : Array Slot), Ok K hp337 → Fr [6002, 6003, 6004] K hp0 hp337 → ((0 : Int) ≤ zi336.toInt ∧ zi336.toInt ≤ 1) → lv_has ls 6 [(0, .ref qa900), (1, .int zi901), (2, .int zi336)] → PW G cy K ln Ls A hp337 H → va_S A s.heap H locs → W p l e ({ frames := 8, cells := 0, slots := 0, locals := 192 } : Room) s m ([.ref qa900, .int zi901] : List Value).toArray below meth c H locs 0 0 Q (F0 m 36 ls []) := by
    intro hp337 zi336 H locs ls ok339 F338 bd340 hl hw hS
    refine lv_lconst (v := 0) hx hb dX5_literal_36 (by decide) ?_
    refine lv_lstore_n (lv' := [(3, .long 0), (0, .ref qa900), (1, .int zi901), (2, .int zi336)]) hx hb dX5_literal_37 rfl hl (by decide) rfl (fun ls hl => ?_)
    refine lv_aload_n hx hb dX5_literal_38 rfl (lv_at hl 1 rfl) ?_
    obtain ⟨zi343, eq342⟩ := rd_6003 ok339 kd900
    refine p_get (ci := 5) (v := .int zi343) (C := RX5) (T := TX5) (N := 7) hx hb hT iw_X5 hown hK hw hW kd900 (by decide) rfl rfl 3 (by decide) eq342 (hT _ tb_374) (fun _ h9 => h9) dX5_literal_39 ?_
    refine lv_bipush (v := 40) hx hb dX5_literal_42 (by decide) ?_
    have jn424 : ∀ (hp421 : Nat → Nat → Value) (wl420 : Int64) (H : Heap) (locs : List Loc) (ls : Array Slot), Ok K hp421 → Fr [6002, 6003, 6004, 6005, 6006] K hp337 hp421 → lv_has ls 6 [(2, .int zi336), (3, .long wl420)] → PW G cy K ln Ls A hp421 H → va_S A s.heap H locs → W p l e ({ frames := 8, cells := 0, slots := 0, locals := 192 } : Room) s m ([.ref qa900, .int zi901] : List Value).toArray below meth c H locs 0 0 Q (F0 m 113 ls []) := by
      intro hp421 wl420 H locs ls ok423 F422 hl hw hS
      refine lv_iload_n hx hb dX5_literal_113 rfl (lv_at hl 0 rfl) ?_
      refine lv_if_eq (tgt := 125) hx hb dX5_literal_114 (by decide) (fun cn425 => ?_) (fun cn425 => ?_)
      · skip
        have bd426 : (0 : Int) ≤ zi336.toInt ∧ zi336.toInt ≤ 0 := r_eq_x cn425 bd340 bc_0 (by decide) (by decide)
        refine lv_lload_n hx hb dX5_literal_125 rfl (lv_at hl 1 rfl) ?_
        rw [hQ]
        exact kz_l hx hb hr hlocks hS hp421 hw ⟨ok423, (Fr.tr (Fr.tr (Fr.rf) F338 (by decide)) F422 (by decide))⟩ (Nat.le_of_ble_eq_true rfl) (Nat.le_of_ble_eq_true rfl) dX5_literal_126
      · skip
        have bd427 : (1 : Int) ≤ zi336.toInt ∧ zi336.toInt ≤ 1 := r_ne_lo cn425 bd340 (toi bc_0) (by decide) (by decide)
        refine lv_lload_n hx hb dX5_literal_117 rfl (lv_at hl 1 rfl) ?_
        refine lv_ldc2 (v := (-1)) hx hb hown (hT _ tb_925) dX5_literal_118 ?_
        refine lv_lxor hx hb dX5_literal_121 (lv_topl (fun wl428 _ => ?_))
        refine lv_goto (tgt := 126) hx hb dX5_literal_122 (by decide) ?_
        rw [hQ]
        exact kz_l hx hb hr hlocks hS hp421 hw ⟨ok423, (Fr.tr (Fr.tr (Fr.rf) F338 (by decide)) F422 (by decide))⟩ (Nat.le_of_ble_eq_true rfl) (Nat.le_of_ble_eq_true rfl) dX5_literal_126
    refine lv_icmp_ne (tgt := 72) hx hb dX5_literal_44 (by decide) (fun cn344 => ?_) (fun cn344 => ?_)
    · skip
      refine lv_aload_n hx hb dX5_literal_72 rfl (lv_at hl 1 rfl) ?_
      obtain ⟨qa430, eq429, kd431⟩ := rd_6001 ok339 kd900
      refine p_get (ci := 5) (v := .ref qa430) (C := RX5) (T := TX5) (N := 7) hx hb hT iw_X5 hown hK hw hW kd900 (by decide) rfl rfl 1 (by decide) eq429 (hT _ tb_372) (fun _ h9 => h9) dX5_literal_73 ?_
      refine lv_aload_n hx hb dX5_literal_76 rfl (lv_at hl 1 rfl) ?_
      refine lv_iconst (v := 2) hx hb dX5_literal_77 (by decide) ?_
      refine kq_l hw hS hA (va_runV (As := [.int 2]) (rest := [.ref qa430]) ⟨hx, hb, hml, hown, hT⟩ (cX5_take_0 l G cy ev K ln Ls hW _ hp337 ok339 qa900 2 kd900) (cwV 1 hT (good_V tb_862 tb_859 tb_861 tb_10 tb_109) rfl rfl rfl (by decide +kernel) ⟨Nat.le_of_ble_eq_true rfl, Nat.le_of_ble_eq_true rfl⟩) (pool_preV (ci := 5) hK hE hS hA hw hW kd900 (by decide) rfl) rfl rfl hl.1 rfl (lv_room (Nat.le_of_ble_eq_true rfl)) dX5_literal_78 ⟨Nat.le_of_ble_eq_true rfl, Nat.le_of_ble_eq_true rfl⟩) (fun wl436 hp432 H locs hq435 hw hS => ?_)
      obtain ⟨ok433, F434⟩ := hq435
      have hw : PW G cy K ln Ls A hp432 H := hw
      refine kq_i hw hS hA (va_runV (As := [.long wl436]) (rest := []) ⟨hx, hb, hml, hown, hT⟩ (cX10_factNamed_0 l G cy ev K ln Ls hW _ hp432 ok433 qa430 wl436 kd431) (cwV 1 hT (good_V tb_870 tb_923 tb_868 tb_869 tb_107) rfl rfl rfl (by decide +kernel) ⟨Nat.le_of_ble_eq_true rfl, Nat.le_of_ble_eq_true rfl⟩) (pool_preV (ci := 10) hK hE hS hA hw hW kd431 (by decide) rfl) rfl rfl hl.1 rfl (lv_room (Nat.le_of_ble_eq_true rfl)) dX5_literal_81 ⟨Nat.le_of_ble_eq_true rfl, Nat.le_of_ble_eq_true rfl⟩) (fun zi441 hp437 H locs hq440 hw hS => ?_)
      obtain ⟨ok438, F439, bd442⟩ := hq440
      obtain rfl : hp432 = hp437 := (Fr.nil F439).symm
      have hw : PW G cy K ln Ls A hp432 H := hw
      refine lv_istore (lv' := [(5, .int zi441), (3, .long 0), (0, .ref qa900), (1, .int zi901), (2, .int zi336)]) hx hb dX5_literal_84 hl (by decide) rfl (fun ls hl => ?_)
      refine lv_iload hx hb dX5_literal_86 (lv_at hl 0 rfl) ?_
      refine lv_if_lt (tgt := 108) hx hb dX5_literal_88 (by decide) (fun cn443 => ?_) (fun cn443 => ?_)
      · skip
        have bd444 : (-1 : Int) ≤ zi441.toInt ∧ zi441.toInt ≤ -1 := r_lt_x cn443 bd442 bc_0 (by decide) (by decide)
        refine lv_aload_n hx hb dX5_literal_108 rfl (lv_at hl 2 rfl) ?_
        refine lv_iconst (v := 4) hx hb dX5_literal_109 (by decide) ?_
        refine kq_v hw hS hA (va_runV (As := [.int 4]) (rest := []) ⟨hx, hb, hml, hown, hT⟩ (cX5_failSoftly_0 l G cy ev K ln Ls hW _ hp432 ok433 qa900 4 kd900) (cwV 1 hT (good_V tb_881 tb_878 tb_880 tb_11 tb_109) rfl rfl rfl (by decide +kernel) ⟨Nat.le_of_ble_eq_true rfl, Nat.le_of_ble_eq_true rfl⟩) (pool_preV (ci := 5) hK hE hS hA hw hW kd900 (by decide) rfl) rfl rfl hl.1 rfl (lv_room (Nat.le_of_ble_eq_true rfl)) dX5_literal_110 ⟨Nat.le_of_ble_eq_true rfl, Nat.le_of_ble_eq_true rfl⟩) (fun hp445 H locs hq448 hw hS => ?_)
        obtain ⟨ok446, F447⟩ := hq448
        have hw : PW G cy K ln Ls A hp445 H := hw
        exact jn424 hp445 0 _ _ ls ok446 (Fr.tr (Fr.tr (Fr.rf) F434 (by decide)) F447 (by decide)) (lv_sub hl [4, 1] rfl) hw hS
      · skip
        have bd450 : (0 : Int) ≤ zi441.toInt ∧ zi441.toInt ≤ 5 := r_le_y (Int32.not_lt.mp cn443) bc_0 bd442 (by decide) (by decide)
        refine lv_iload hx hb dX5_literal_91 (lv_at hl 0 rfl) ?_
        refine lv_bipush (v := 6) hx hb dX5_literal_93 (by decide) ?_
        refine lv_icmp_ge (tgt := 108) hx hb dX5_literal_95 (by decide) (fun c => absurd c (d_nle bc_6 bd450 (by decide))) (fun _ => ?_)
        refine va_getsN hx hb hE.2.1 hS hown (hK.fl nw_820) (fun _ h9 => h9) dX5_literal_98 ?_
        refine lv_iload hx hb dX5_literal_101 (lv_at hl 0 rfl) ?_
        obtain ⟨wl451, _⟩ : ∃ w : Int64, w = ev.2.2 (zi441 : Int32).toNatClampNeg := ⟨_, rfl⟩
        refine va_tl (v := .long (ev.2.2 (zi441 : Int32).toNatClampNeg)) hx hb hE.2.2 hS (vp_b bd450 (by decide) (by decide)) rfl dX5_literal_103 (lv_topl (fun wl451x _ => ?_))
        refine lv_lstore_n (lv' := [(3, .long wl451x), (5, .int zi441), (0, .ref qa900), (1, .int zi901), (2, .int zi336)]) hx hb dX5_literal_104 rfl hl (by decide) rfl (fun ls hl => ?_)
        refine lv_goto (tgt := 113) hx hb dX5_literal_105 (by decide) ?_
        exact jn424 hp432 wl451x _ _ ls ok433 (Fr.tr (Fr.rf) F434 (by decide)) (lv_sub hl [4, 0] rfl) hw hS
    · skip
      have bd452 : (40 : Int) ≤ zi343.toInt ∧ zi343.toInt ≤ 40 := r_eq_x cn344 (b_all zi343) bc_40 (by decide) (by decide)
      refine lv_aload_n hx hb dX5_literal_47 rfl (lv_at hl 1 rfl) ?_
      refine lv_iload_n hx hb dX5_literal_48 rfl (lv_at hl 2 rfl) ?_
      refine kq_i hw hS hA (va_runV (As := [.int zi901]) (rest := []) ⟨hx, hb, hml, hown, hT⟩ (cX5_enter_4 l G cy ev K ln Ls hW _ hp337 ok339 qa900 zi901 kd900 (b_wid2 bd901 (by decide) (by decide))) (cwV 1 hT (good_V tb_922 tb_919 tb_921 tb_18 tb_109) rfl rfl rfl (by decide +kernel) ⟨Nat.le_of_ble_eq_true rfl, Nat.le_of_ble_eq_true rfl⟩) (pool_preV (ci := 5) hK hE hS hA hw hW kd900 (by decide) rfl) rfl rfl hl.1 rfl (lv_room (Nat.le_of_ble_eq_true rfl)) dX5_literal_49 ⟨Nat.le_of_ble_eq_true rfl, Nat.le_of_ble_eq_true rfl⟩) (fun zi457 hp453 H locs hq456 hw hS => ?_)
      obtain ⟨ok454, F455, bd458, hc459, hc460⟩ := hq456
      have hw : PW G cy K ln Ls A hp453 H := hw
      have jn482 : ∀ (hp479 : Nat → Nat → Value) (wl478 : Int64) (H : Heap) (locs : List Loc) (ls : Array Slot), Ok K hp479 → Fr [6002, 6003, 6004, 6005, 6006] K hp453 hp479 → lv_has ls 6 [(0, .ref qa900), (2, .int zi336), (3, .long wl478)] → PW G cy K ln Ls A hp479 H → va_S A s.heap H locs → W p l e ({ frames := 8, cells := 0, slots := 0, locals := 192 } : Room) s m ([.ref qa900, .int zi901] : List Value).toArray below meth c H locs 0 0 Q (F0 m 63 ls []) := by
        intro hp479 wl478 H locs ls ok481 F480 hl hw hS
        refine lv_aload_n hx hb dX5_literal_63 rfl (lv_at hl 0 rfl) ?_
        refine lv_bipush (v := 41) hx hb dX5_literal_64 (by decide) ?_
        refine kq_v hw hS hA (va_runV (As := [.int 41]) (rest := []) ⟨hx, hb, hml, hown, hT⟩ (cX5_expect_0 l G cy ev K ln Ls hW _ hp479 ok481 qa900 41 kd900) (cwV 1 hT (good_V tb_889 tb_886 tb_888 tb_12 tb_109) rfl rfl rfl (by decide +kernel) ⟨Nat.le_of_ble_eq_true rfl, Nat.le_of_ble_eq_true rfl⟩) (pool_preV (ci := 5) hK hE hS hA hw hW kd900 (by decide) rfl) rfl rfl hl.1 rfl (lv_room (Nat.le_of_ble_eq_true rfl)) dX5_literal_66 ⟨Nat.le_of_ble_eq_true rfl, Nat.le_of_ble_eq_true rfl⟩) (fun hp483 H locs hq486 hw hS => ?_)
        obtain ⟨ok484, F485⟩ := hq486
        have hw : PW G cy K ln Ls A hp483 H := hw
        refine lv_goto (tgt := 113) hx hb dX5_literal_69 (by decide) ?_
        exact jn424 hp483 wl478 _ _ ls ok484 (Fr.tr (Fr.tr (Fr.tr (Fr.rf) F455 (by decide)) F480 (by decide)) F485 (by decide)) (lv_sub hl [1, 2] rfl) hw hS
      rcases b01 bd458 with cn461 | cn461
      · skip
        subst cn461
        refine lv_if_eq (tgt := 63) hx hb dX5_literal_52 (by decide) (fun _ => ?_) (fun c => absurd (d_eq bc_0 bc_0) c)
        exact jn482 hp453 0 _ _ ls ok454 (Fr.rf) (lv_sub hl [1, 3, 0] rfl) hw hS
      · skip
        subst cn461
        obtain ⟨zi488, eq489, bd490⟩ := hc459 rfl
        obtain ⟨zi491, eq492, bd493⟩ := hc460 rfl
        refine lv_if_eq (tgt := 63) hx hb dX5_literal_52 (by decide) (fun c => absurd c (d_ne bc_1 bc_0 (by decide))) (fun _ => ?_)
        refine lv_aload_n hx hb dX5_literal_55 rfl (lv_at hl 1 rfl) ?_
        refine lv_iload_n hx hb dX5_literal_56 rfl (lv_at hl 2 rfl) ?_
        refine lv_iconst (v := 1) hx hb dX5_literal_57 (by decide) ?_
        refine lv_iadd hx hb dX5_literal_58 (lv_topi (fun zi494 ea495 => ?_))
        have bd496 : (5 : Int) ≤ zi494.toInt ∧ zi494.toInt ≤ 5 := b_iadd ea495 bd901 bc_1 (by decide) (by decide) (by decide) (by decide)
        have qe497 : zi494.toInt = (zi901 : Int32).toInt + (1 : Int32).toInt := e_iadd ea495 bd901 bc_1 (by decide) (by decide)
        have qe498 : zi494.toInt = zi901.toInt + 1 := by have ha : (1 : Int32).toInt = 1 := (by decide); rw [ha] at qe497; exact qe497
        refine kq_l hw hS hA (va_runV (As := [.int zi494]) (rest := []) ⟨hx, hb, hml, hown, hT⟩ (cX5_cond_1 l G cy ev K ln Ls hW _ hp453 ok454 qa900 zi494 kd900 (b_wid2 bd496 (by decide) (by decide))) (cwV 1 hT (good_V tb_910 tb_907 tb_909 tb_15 tb_109) rfl rfl rfl (by decide +kernel) ⟨Nat.le_of_ble_eq_true rfl, Nat.le_of_ble_eq_true rfl⟩) (pool_preV (ci := 5) hK hE hS hA hw hW kd900 (by decide) rfl) rfl rfl hl.1 rfl (lv_room (Nat.le_of_ble_eq_true rfl)) dX5_literal_59 ⟨Nat.le_of_ble_eq_true rfl, Nat.le_of_ble_eq_true rfl⟩) (fun wl503 hp499 H locs hq502 hw hS => ?_)
        obtain ⟨ok500, F501⟩ := hq502
        have hw : PW G cy K ln Ls A hp499 H := hw
        refine lv_lstore_n (lv' := [(3, .long wl503), (0, .ref qa900), (1, .int zi901), (2, .int zi336)]) hx hb dX5_literal_62 rfl hl (by decide) rfl (fun ls hl => ?_)
        exact jn482 hp499 wl503 _ _ ls ok500 (Fr.tr (Fr.rf) F501 (by decide)) (lv_sub hl [1, 3, 0] rfl) hw hS
  have lp506 : ∀ (n504 : Nat) (hp269 : Nat → Nat → Value) (zi267 : Int32) (zi268 : Int32) (H : Heap) (locs : List Loc) (ls : Array Slot), 401 - zi268.toInt < (n504 : Int) → Ok K hp269 → Fr [6002, 6003, 6004] K hp0 hp269 → ((0 : Int) ≤ zi267.toInt ∧ zi267.toInt ≤ 1) → ((0 : Int) ≤ zi268.toInt ∧ zi268.toInt ≤ 401) → lv_has ls 6 [(0, .ref qa900), (1, .int zi901), (2, .int zi267), (3, .int zi268)] → PW G cy K ln Ls A hp269 H → va_S A s.heap H locs → W p l e ({ frames := 8, cells := 0, slots := 0, locals := 192 } : Room) s m ([.ref qa900, .int zi901] : List Value).toArray below meth c H locs 0 0 Q (F0 m 4 ls []) := by
    intro n504
    induction n504 with
    | zero =>
      intro hp269 zi267 zi268 H locs ls hm507 ok271 F270 bd272 bd273 hl hw hS
      exact absurd hm507 (by have := bd273; omega)
    | succ n504 ih505 =>
      intro hp269 zi267 zi268 H locs ls hm507 ok271 F270 bd272 bd273 hl hw hS
      refine lv_iload_n hx hb dX5_literal_4 rfl (lv_at hl 3 rfl) ?_
      refine lv_sipush (v := 400) hx hb dX5_literal_5 (by decide) ?_
      refine lv_icmp_gt (tgt := 36) hx hb dX5_literal_8 (by decide) (fun cn508 => ?_) (fun cn508 => ?_)
      · skip
        have bd509 : (401 : Int) ≤ zi268.toInt ∧ zi268.toInt ≤ 401 := r_lt_y cn508 bc_400 bd273 (by decide) (by decide)
        exact jn341 hp269 zi267 _ _ ls ok271 (Fr.tr (Fr.rf) F270 (by decide)) (b_wid2 bd272 (by decide) (by decide)) (lv_sub hl [0, 1, 2] rfl) hw hS
      · skip
        have bd510 : (0 : Int) ≤ zi268.toInt ∧ zi268.toInt ≤ 400 := r_le_x (Int32.not_lt.mp cn508) bd273 bc_400 (by decide) (by decide)
        refine lv_aload_n hx hb dX5_literal_11 rfl (lv_at hl 0 rfl) ?_
        refine lv_bipush (v := 113) hx hb dX5_literal_12 (by decide) ?_
        refine kq_i hw hS hA (va_runV (As := [.int 113]) (rest := []) ⟨hx, hb, hml, hown, hT⟩ (cX5_accept_0 l G cy ev K ln Ls hW _ hp269 ok271 qa900 113 kd900) (cwV 1 hT (good_V tb_854 tb_851 tb_853 tb_8 tb_109) rfl rfl rfl (by decide +kernel) ⟨Nat.le_of_ble_eq_true rfl, Nat.le_of_ble_eq_true rfl⟩) (pool_preV (ci := 5) hK hE hS hA hw hW kd900 (by decide) rfl) rfl rfl hl.1 rfl (lv_room (Nat.le_of_ble_eq_true rfl)) dX5_literal_14 ⟨Nat.le_of_ble_eq_true rfl, Nat.le_of_ble_eq_true rfl⟩) (fun zi515 hp511 H locs hq514 hw hS => ?_)
        obtain ⟨ok512, F513, bd516, hc517, hc518⟩ := hq514
        have hw : PW G cy K ln Ls A hp511 H := hw
        rcases b01 bd516 with cn519 | cn519
        · skip
          subst cn519
          refine lv_if_eq (tgt := 36) hx hb dX5_literal_17 (by decide) (fun _ => ?_) (fun c => absurd (d_eq bc_0 bc_0) c)
          exact jn341 hp511 zi267 _ _ ls ok512 (Fr.tr (Fr.tr (Fr.rf) F270 (by decide)) F513 (by decide)) (b_wid2 bd272 (by decide) (by decide)) (lv_sub hl [0, 1, 2] rfl) hw hS
        · skip
          subst cn519
          obtain ⟨zi520, eq521, bd522⟩ := hc517 rfl
          obtain ⟨zi523, eq524, bd525⟩ := hc518 rfl
          refine lv_if_eq (tgt := 36) hx hb dX5_literal_17 (by decide) (fun c => absurd c (d_ne bc_1 bc_0 (by decide))) (fun _ => ?_)
          refine lv_iload_n hx hb dX5_literal_20 rfl (lv_at hl 2 rfl) ?_
          have jn531 : ∀ (zi529 : Int32) (H : Heap) (locs : List Loc) (ls : Array Slot), ((0 : Int) ≤ zi529.toInt ∧ zi529.toInt ≤ 1) → lv_has ls 6 [(0, .ref qa900), (1, .int zi901), (3, .int zi268)] → PW G cy K ln Ls A hp511 H → va_S A s.heap H locs → W p l e ({ frames := 8, cells := 0, slots := 0, locals := 192 } : Room) s m ([.ref qa900, .int zi901] : List Value).toArray below meth c H locs 0 0 Q (F0 m 29 ls [.int zi529]) := by
            intro zi529 H locs ls bd530 hl hw hS
            refine lv_istore_n (lv' := [(2, .int zi529), (0, .ref qa900), (1, .int zi901), (3, .int zi268)]) hx hb dX5_literal_29 rfl hl (by decide) rfl (fun ls hl => ?_)
            obtain ⟨zi532, ea533⟩ : ∃ z : Int32, z = zi268 + 1 := ⟨_, rfl⟩
            have bd534 : (1 : Int) ≤ zi532.toInt ∧ zi532.toInt ≤ 401 := b_iadd ea533 bd510 bc_1 (by decide) (by decide) (by decide) (by decide)
            have qe535 : zi532.toInt = (zi268 : Int32).toInt + (1 : Int32).toInt := e_iadd ea533 bd510 bc_1 (by decide) (by decide)
            have qe536 : zi532.toInt = zi268.toInt + 1 := by have ha : (1 : Int32).toInt = 1 := (by decide); rw [ha] at qe535; exact qe535
            refine lv_iinc (v := zi532) (lv' := [(3, .int zi532), (2, .int zi529), (0, .ref qa900), (1, .int zi901)]) hx hb dX5_literal_30 hl (k := 3) rfl ea533.symm (by decide) rfl (fun ls hl => ?_)
            refine lv_goto (tgt := 4) hx hb dX5_literal_33 (by decide) ?_
            exact ih505 hp511 zi529 zi532 _ _ ls (by have := hm507; have := qe536; omega) ok512 (Fr.tr (Fr.tr (Fr.rf) F270 (by decide)) F513 (by decide)) (b_wid2 bd530 (by decide) (by decide)) (b_wid2 bd534 (by decide) (by decide)) (lv_sub hl [2, 3, 1, 0] rfl) hw hS
          refine lv_if_ne (tgt := 28) hx hb dX5_literal_21 (by decide) (fun cn526 => ?_) (fun cn526 => ?_)
          · skip
            have bd537 : (1 : Int) ≤ zi267.toInt ∧ zi267.toInt ≤ 1 := r_ne_lo cn526 bd272 (toi bc_0) (by decide) (by decide)
            refine lv_iconst (v := 0) hx hb dX5_literal_28 (by decide) ?_
            exact jn531 0 _ _ ls (b_wid2 bc_0 (by decide) (by decide)) (lv_sub hl [0, 1, 3] rfl) hw hS
          · skip
            have bd538 : (0 : Int) ≤ zi267.toInt ∧ zi267.toInt ≤ 0 := r_eq_x cn526 bd272 bc_0 (by decide) (by decide)
            refine lv_iconst (v := 1) hx hb dX5_literal_24 (by decide) ?_
            refine lv_goto (tgt := 29) hx hb dX5_literal_25 (by decide) ?_
            exact jn531 1 _ _ ls (b_wid2 bc_1 (by decide) (by decide)) (lv_sub hl [0, 1, 3] rfl) hw hS
  exact lp506 _ hp0 0 0 _ _ ls (lp_in _) ok0 (Fr.rf) (b_wid2 bc_0 (by decide) (by decide)) (b_wid2 bc_0 (by decide) (by decide)) (lv_sub hl [2, 3, 1, 0] rfl) hw hS

set_option maxRecDepth 100000 in
set_option maxHeartbeats 4000000 in
theorem cX5_all_2 (l : Launch) (G : va_G) (cy : Nat → ClassId) (ev : Ew) (K ln : Nat → Nat) (Ls : List Nat) (hW : SW K ln Ls) (sz : Nat) (hp0 : Nat → Nat → Value) (ok0 : Ok K hp0) (qa900 : Nat) (zi901 : Int32) (kd900 : K qa900 = 6) (bd901 : ((4 : Int) ≤ zi901.toInt ∧ zi901.toInt ≤ 4)) : Met l yX5_all (WS yX5_all cX5_all 5 (some .long)) { frames := 9, cells := 0, slots := 0, locals := 217 } (PB2 [.ref qa900, .int zi901] sz G cy ev (va_pl Ls (cellOf cy K ln hp0))) (QBl (S := (Nat → Nat → Value)) (fun (r : Int64) (u : (Nat → Nat → Value)) => Ok K u ∧ Fr [6002, 6003, 6004, 6005, 6006] K hp0 u) G (fun u => va_pl Ls (cellOf cy K ln u)) (va_A (va_pl Ls (cellOf cy K ln hp0)) sz)) 0 0 (va_A (va_pl Ls (cellOf cy K ln hp0)) sz) := by
  refine met_of2 (y := yX5_all) (L := 5) (av := [.ref qa900, .int zi901]) (Qc := fun A => QBl (S := (Nat → Nat → Value)) (fun (r : Int64) (u : (Nat → Nat → Value)) => Ok K u ∧ Fr [6002, 6003, 6004, 6005, 6006] K hp0 u) G (fun u => va_pl Ls (cellOf cy K ln u)) A) (plainFor_of_name (by decide)) (Nat.le_of_ble_eq_true rfl) ?_
  intro p e s m below meth c hsz hx hb hr hml hown hT hlocks hin hK A hA hE hw hS ls hl
  have hw : PW G cy K ln Ls A hp0 s.heap := hw
  have hown : s.vm.findClass "LieClock$Parser" = some m.cls := hown
  have hl : lv_has ls 5 [(0, .ref qa900), (1, .int zi901)] := hl
  obtain ⟨Q, hQ⟩ : ∃ Q : State → Prop, Q = MQ below (QBl (S := (Nat → Nat → Value)) (fun (r : Int64) (u : (Nat → Nat → Value)) => Ok K u ∧ Fr [6002, 6003, 6004, 6005, 6006] K hp0 u) G (fun u => va_pl Ls (cellOf cy K ln u)) A) ([.ref qa900, .int zi901] : List Value).toArray s 0 0 A := ⟨_, rfl⟩
  rw [← hQ]
  refine lv_aload_n hx hb dX5_all_0 rfl (lv_at hl 0 rfl) ?_
  refine lv_iload_n hx hb dX5_all_1 rfl (lv_at hl 1 rfl) ?_
  refine kq_l hw hS hA (va_runV (As := [.int zi901]) (rest := []) ⟨hx, hb, hml, hown, hT⟩ (cX5_literal_2 l G cy ev K ln Ls hW _ hp0 ok0 qa900 zi901 kd900 (b_wid2 bd901 (by decide) (by decide))) (cwV 1 hT (good_V tb_918 tb_915 tb_917 tb_17 tb_109) rfl rfl rfl (by decide +kernel) ⟨Nat.le_of_ble_eq_true rfl, Nat.le_of_ble_eq_true rfl⟩) (pool_preV (ci := 5) hK hE hS hA hw hW kd900 (by decide) rfl) rfl rfl hl.1 rfl (lv_room (Nat.le_of_ble_eq_true rfl)) dX5_all_2 ⟨Nat.le_of_ble_eq_true rfl, Nat.le_of_ble_eq_true rfl⟩) (fun wl5 hp1 H locs hq4 hw hS => ?_)
  obtain ⟨ok2, F3⟩ := hq4
  have hw : PW G cy K ln Ls A hp1 H := hw
  refine lv_lstore_n (lv' := [(2, .long wl5), (0, .ref qa900), (1, .int zi901)]) hx hb dX5_all_5 rfl hl (by decide) rfl (fun ls hl => ?_)
  refine lv_iconst (v := 0) hx hb dX5_all_6 (by decide) ?_
  refine lv_istore (lv' := [(4, .int 0), (2, .long wl5), (0, .ref qa900), (1, .int zi901)]) hx hb dX5_all_7 hl (by decide) rfl (fun ls hl => ?_)
  have jn325 : ∀ (hp322 : Nat → Nat → Value) (wl321 : Int64) (H : Heap) (locs : List Loc) (ls : Array Slot), Ok K hp322 → Fr [6002, 6003, 6004, 6005, 6006] K hp1 hp322 → lv_has ls 5 [(2, .long wl321)] → PW G cy K ln Ls A hp322 H → va_S A s.heap H locs → W p l e ({ frames := 9, cells := 0, slots := 0, locals := 217 } : Room) s m ([.ref qa900, .int zi901] : List Value).toArray below meth c H locs 0 0 Q (F0 m 40 ls []) := by
    intro hp322 wl321 H locs ls ok324 F323 hl hw hS
    refine lv_lload_n hx hb dX5_all_40 rfl (lv_at hl 0 rfl) ?_
    rw [hQ]
    exact kz_l hx hb hr hlocks hS hp322 hw ⟨ok324, (Fr.tr (Fr.tr (Fr.rf) F3 (by decide)) F323 (by decide))⟩ (Nat.le_of_ble_eq_true rfl) (Nat.le_of_ble_eq_true rfl) dX5_all_41
  have lp328 : ∀ (n326 : Nat) (hp259 : Nat → Nat → Value) (wl257 : Int64) (zi258 : Int32) (H : Heap) (locs : List Loc) (ls : Array Slot), 401 - zi258.toInt < (n326 : Int) → Ok K hp259 → Fr [6002, 6003, 6004, 6005, 6006] K hp1 hp259 → ((0 : Int) ≤ zi258.toInt ∧ zi258.toInt ≤ 401) → lv_has ls 5 [(0, .ref qa900), (1, .int zi901), (2, .long wl257), (4, .int zi258)] → PW G cy K ln Ls A hp259 H → va_S A s.heap H locs → W p l e ({ frames := 9, cells := 0, slots := 0, locals := 217 } : Room) s m ([.ref qa900, .int zi901] : List Value).toArray below meth c H locs 0 0 Q (F0 m 9 ls []) := by
    intro n326
    induction n326 with
    | zero =>
      intro hp259 wl257 zi258 H locs ls hm329 ok261 F260 bd262 hl hw hS
      exact absurd hm329 (by have := bd262; omega)
    | succ n326 ih327 =>
      intro hp259 wl257 zi258 H locs ls hm329 ok261 F260 bd262 hl hw hS
      refine lv_iload hx hb dX5_all_9 (lv_at hl 3 rfl) ?_
      refine lv_sipush (v := 400) hx hb dX5_all_11 (by decide) ?_
      refine lv_icmp_gt (tgt := 40) hx hb dX5_all_14 (by decide) (fun cn330 => ?_) (fun cn330 => ?_)
      · skip
        have bd331 : (401 : Int) ≤ zi258.toInt ∧ zi258.toInt ≤ 401 := r_lt_y cn330 bc_400 bd262 (by decide) (by decide)
        exact jn325 hp259 wl257 _ _ ls ok261 (Fr.tr (Fr.rf) F260 (by decide)) (lv_sub hl [2] rfl) hw hS
      · skip
        have bd332 : (0 : Int) ≤ zi258.toInt ∧ zi258.toInt ≤ 400 := r_le_x (Int32.not_lt.mp cn330) bd262 bc_400 (by decide) (by decide)
        refine lv_aload_n hx hb dX5_all_17 rfl (lv_at hl 0 rfl) ?_
        refine lv_bipush (v := 112) hx hb dX5_all_18 (by decide) ?_
        refine kq_i hw hS hA (va_runV (As := [.int 112]) (rest := []) ⟨hx, hb, hml, hown, hT⟩ (cX5_accept_0 l G cy ev K ln Ls hW _ hp259 ok261 qa900 112 kd900) (cwV 1 hT (good_V tb_854 tb_851 tb_853 tb_8 tb_109) rfl rfl rfl (by decide +kernel) ⟨Nat.le_of_ble_eq_true rfl, Nat.le_of_ble_eq_true rfl⟩) (pool_preV (ci := 5) hK hE hS hA hw hW kd900 (by decide) rfl) rfl rfl hl.1 rfl (lv_room (Nat.le_of_ble_eq_true rfl)) dX5_all_20 ⟨Nat.le_of_ble_eq_true rfl, Nat.le_of_ble_eq_true rfl⟩) (fun zi337 hp333 H locs hq336 hw hS => ?_)
        obtain ⟨ok334, F335, bd338, hc339, hc340⟩ := hq336
        have hw : PW G cy K ln Ls A hp333 H := hw
        rcases b01 bd338 with cn341 | cn341
        · skip
          subst cn341
          refine lv_if_eq (tgt := 40) hx hb dX5_all_23 (by decide) (fun _ => ?_) (fun c => absurd (d_eq bc_0 bc_0) c)
          exact jn325 hp333 wl257 _ _ ls ok334 (Fr.tr (Fr.tr (Fr.rf) F260 (by decide)) F335 (by decide)) (lv_sub hl [2] rfl) hw hS
        · skip
          subst cn341
          obtain ⟨zi342, eq343, bd344⟩ := hc339 rfl
          obtain ⟨zi345, eq346, bd347⟩ := hc340 rfl
          refine lv_if_eq (tgt := 40) hx hb dX5_all_23 (by decide) (fun c => absurd c (d_ne bc_1 bc_0 (by decide))) (fun _ => ?_)
          refine lv_lload_n hx hb dX5_all_26 rfl (lv_at hl 2 rfl) ?_
          refine lv_aload_n hx hb dX5_all_27 rfl (lv_at hl 0 rfl) ?_
          refine lv_iload_n hx hb dX5_all_28 rfl (lv_at hl 1 rfl) ?_
          refine kq_l hw hS hA (va_runV (As := [.int zi901]) (rest := [.long wl257]) ⟨hx, hb, hml, hown, hT⟩ (cX5_literal_2 l G cy ev K ln Ls hW _ hp333 ok334 qa900 zi901 kd900 (b_wid2 bd901 (by decide) (by decide))) (cwV 1 hT (good_V tb_918 tb_915 tb_917 tb_17 tb_109) rfl rfl rfl (by decide +kernel) ⟨Nat.le_of_ble_eq_true rfl, Nat.le_of_ble_eq_true rfl⟩) (pool_preV (ci := 5) hK hE hS hA hw hW kd900 (by decide) rfl) rfl rfl hl.1 rfl (lv_room (Nat.le_of_ble_eq_true rfl)) dX5_all_29 ⟨Nat.le_of_ble_eq_true rfl, Nat.le_of_ble_eq_true rfl⟩) (fun wl352 hp348 H locs hq351 hw hS => ?_)
          obtain ⟨ok349, F350⟩ := hq351
          have hw : PW G cy K ln Ls A hp348 H := hw
          refine lv_land hx hb dX5_all_32 (lv_topl (fun wl353 _ => ?_))
          refine lv_lstore_n (lv' := [(2, .long wl353), (0, .ref qa900), (1, .int zi901), (4, .int zi258)]) hx hb dX5_all_33 rfl hl (by decide) rfl (fun ls hl => ?_)
          obtain ⟨zi354, ea355⟩ : ∃ z : Int32, z = zi258 + 1 := ⟨_, rfl⟩
          have bd356 : (1 : Int) ≤ zi354.toInt ∧ zi354.toInt ≤ 401 := b_iadd ea355 bd332 bc_1 (by decide) (by decide) (by decide) (by decide)
          have qe357 : zi354.toInt = (zi258 : Int32).toInt + (1 : Int32).toInt := e_iadd ea355 bd332 bc_1 (by decide) (by decide)
          have qe358 : zi354.toInt = zi258.toInt + 1 := by have ha : (1 : Int32).toInt = 1 := (by decide); rw [ha] at qe357; exact qe357
          refine lv_iinc (v := zi354) (lv' := [(4, .int zi354), (2, .long wl353), (0, .ref qa900), (1, .int zi901)]) hx hb dX5_all_34 hl (k := 3) rfl ea355.symm (by decide) rfl (fun ls hl => ?_)
          refine lv_goto (tgt := 9) hx hb dX5_all_37 (by decide) ?_
          exact ih327 hp348 wl353 zi354 _ _ ls (by have := hm329; have := qe358; omega) ok349 (Fr.tr (Fr.tr (Fr.tr (Fr.rf) F260 (by decide)) F335 (by decide)) F350 (by decide)) (b_wid2 bd356 (by decide) (by decide)) (lv_sub hl [2, 3, 1, 0] rfl) hw hS
  exact lp328 _ hp1 wl5 0 _ _ ls (lp_in _) ok2 (Fr.rf) (b_wid2 bc_0 (by decide) (by decide)) (lv_sub hl [2, 3, 1, 0] rfl) hw hS

set_option maxRecDepth 100000 in
set_option maxHeartbeats 4000000 in
theorem cX5_cond_2 (l : Launch) (G : va_G) (cy : Nat → ClassId) (ev : Ew) (K ln : Nat → Nat) (Ls : List Nat) (hW : SW K ln Ls) (sz : Nat) (hp0 : Nat → Nat → Value) (ok0 : Ok K hp0) (qa900 : Nat) (zi901 : Int32) (kd900 : K qa900 = 6) (bd901 : ((4 : Int) ≤ zi901.toInt ∧ zi901.toInt ≤ 4)) : Met l yX5_cond (WS yX5_cond cX5_cond 5 (some .long)) { frames := 10, cells := 0, slots := 0, locals := 241 } (PB2 [.ref qa900, .int zi901] sz G cy ev (va_pl Ls (cellOf cy K ln hp0))) (QBl (S := (Nat → Nat → Value)) (fun (r : Int64) (u : (Nat → Nat → Value)) => Ok K u ∧ Fr [6002, 6003, 6004, 6005, 6006] K hp0 u) G (fun u => va_pl Ls (cellOf cy K ln u)) (va_A (va_pl Ls (cellOf cy K ln hp0)) sz)) 0 0 (va_A (va_pl Ls (cellOf cy K ln hp0)) sz) := by
  refine met_of2 (y := yX5_cond) (L := 5) (av := [.ref qa900, .int zi901]) (Qc := fun A => QBl (S := (Nat → Nat → Value)) (fun (r : Int64) (u : (Nat → Nat → Value)) => Ok K u ∧ Fr [6002, 6003, 6004, 6005, 6006] K hp0 u) G (fun u => va_pl Ls (cellOf cy K ln u)) A) (plainFor_of_name (by decide)) (Nat.le_of_ble_eq_true rfl) ?_
  intro p e s m below meth c hsz hx hb hr hml hown hT hlocks hin hK A hA hE hw hS ls hl
  have hw : PW G cy K ln Ls A hp0 s.heap := hw
  have hown : s.vm.findClass "LieClock$Parser" = some m.cls := hown
  have hl : lv_has ls 5 [(0, .ref qa900), (1, .int zi901)] := hl
  obtain ⟨Q, hQ⟩ : ∃ Q : State → Prop, Q = MQ below (QBl (S := (Nat → Nat → Value)) (fun (r : Int64) (u : (Nat → Nat → Value)) => Ok K u ∧ Fr [6002, 6003, 6004, 6005, 6006] K hp0 u) G (fun u => va_pl Ls (cellOf cy K ln u)) A) ([.ref qa900, .int zi901] : List Value).toArray s 0 0 A := ⟨_, rfl⟩
  rw [← hQ]
  refine lv_aload_n hx hb dX5_cond_0 rfl (lv_at hl 0 rfl) ?_
  refine lv_iload_n hx hb dX5_cond_1 rfl (lv_at hl 1 rfl) ?_
  refine kq_l hw hS hA (va_runV (As := [.int zi901]) (rest := []) ⟨hx, hb, hml, hown, hT⟩ (cX5_all_2 l G cy ev K ln Ls hW _ hp0 ok0 qa900 zi901 kd900 (b_wid2 bd901 (by decide) (by decide))) (cwV 1 hT (good_V tb_914 tb_911 tb_913 tb_16 tb_109) rfl rfl rfl (by decide +kernel) ⟨Nat.le_of_ble_eq_true rfl, Nat.le_of_ble_eq_true rfl⟩) (pool_preV (ci := 5) hK hE hS hA hw hW kd900 (by decide) rfl) rfl rfl hl.1 rfl (lv_room (Nat.le_of_ble_eq_true rfl)) dX5_cond_2 ⟨Nat.le_of_ble_eq_true rfl, Nat.le_of_ble_eq_true rfl⟩) (fun wl5 hp1 H locs hq4 hw hS => ?_)
  obtain ⟨ok2, F3⟩ := hq4
  have hw : PW G cy K ln Ls A hp1 H := hw
  refine lv_lstore_n (lv' := [(2, .long wl5), (0, .ref qa900), (1, .int zi901)]) hx hb dX5_cond_5 rfl hl (by decide) rfl (fun ls hl => ?_)
  refine lv_iconst (v := 0) hx hb dX5_cond_6 (by decide) ?_
  refine lv_istore (lv' := [(4, .int 0), (2, .long wl5), (0, .ref qa900), (1, .int zi901)]) hx hb dX5_cond_7 hl (by decide) rfl (fun ls hl => ?_)
  have jn325 : ∀ (hp322 : Nat → Nat → Value) (wl321 : Int64) (H : Heap) (locs : List Loc) (ls : Array Slot), Ok K hp322 → Fr [6002, 6003, 6004, 6005, 6006] K hp1 hp322 → lv_has ls 5 [(2, .long wl321)] → PW G cy K ln Ls A hp322 H → va_S A s.heap H locs → W p l e ({ frames := 10, cells := 0, slots := 0, locals := 241 } : Room) s m ([.ref qa900, .int zi901] : List Value).toArray below meth c H locs 0 0 Q (F0 m 40 ls []) := by
    intro hp322 wl321 H locs ls ok324 F323 hl hw hS
    refine lv_lload_n hx hb dX5_cond_40 rfl (lv_at hl 0 rfl) ?_
    rw [hQ]
    exact kz_l hx hb hr hlocks hS hp322 hw ⟨ok324, (Fr.tr (Fr.tr (Fr.rf) F3 (by decide)) F323 (by decide))⟩ (Nat.le_of_ble_eq_true rfl) (Nat.le_of_ble_eq_true rfl) dX5_cond_41
  have lp328 : ∀ (n326 : Nat) (hp259 : Nat → Nat → Value) (wl257 : Int64) (zi258 : Int32) (H : Heap) (locs : List Loc) (ls : Array Slot), 401 - zi258.toInt < (n326 : Int) → Ok K hp259 → Fr [6002, 6003, 6004, 6005, 6006] K hp1 hp259 → ((0 : Int) ≤ zi258.toInt ∧ zi258.toInt ≤ 401) → lv_has ls 5 [(0, .ref qa900), (1, .int zi901), (2, .long wl257), (4, .int zi258)] → PW G cy K ln Ls A hp259 H → va_S A s.heap H locs → W p l e ({ frames := 10, cells := 0, slots := 0, locals := 241 } : Room) s m ([.ref qa900, .int zi901] : List Value).toArray below meth c H locs 0 0 Q (F0 m 9 ls []) := by
    intro n326
    induction n326 with
    | zero =>
      intro hp259 wl257 zi258 H locs ls hm329 ok261 F260 bd262 hl hw hS
      exact absurd hm329 (by have := bd262; omega)
    | succ n326 ih327 =>
      intro hp259 wl257 zi258 H locs ls hm329 ok261 F260 bd262 hl hw hS
      refine lv_iload hx hb dX5_cond_9 (lv_at hl 3 rfl) ?_
      refine lv_sipush (v := 400) hx hb dX5_cond_11 (by decide) ?_
      refine lv_icmp_gt (tgt := 40) hx hb dX5_cond_14 (by decide) (fun cn330 => ?_) (fun cn330 => ?_)
      · skip
        have bd331 : (401 : Int) ≤ zi258.toInt ∧ zi258.toInt ≤ 401 := r_lt_y cn330 bc_400 bd262 (by decide) (by decide)
        exact jn325 hp259 wl257 _ _ ls ok261 (Fr.tr (Fr.rf) F260 (by decide)) (lv_sub hl [2] rfl) hw hS
      · skip
        have bd332 : (0 : Int) ≤ zi258.toInt ∧ zi258.toInt ≤ 400 := r_le_x (Int32.not_lt.mp cn330) bd262 bc_400 (by decide) (by decide)
        refine lv_aload_n hx hb dX5_cond_17 rfl (lv_at hl 0 rfl) ?_
        refine lv_bipush (v := 111) hx hb dX5_cond_18 (by decide) ?_
        refine kq_i hw hS hA (va_runV (As := [.int 111]) (rest := []) ⟨hx, hb, hml, hown, hT⟩ (cX5_accept_0 l G cy ev K ln Ls hW _ hp259 ok261 qa900 111 kd900) (cwV 1 hT (good_V tb_854 tb_851 tb_853 tb_8 tb_109) rfl rfl rfl (by decide +kernel) ⟨Nat.le_of_ble_eq_true rfl, Nat.le_of_ble_eq_true rfl⟩) (pool_preV (ci := 5) hK hE hS hA hw hW kd900 (by decide) rfl) rfl rfl hl.1 rfl (lv_room (Nat.le_of_ble_eq_true rfl)) dX5_cond_20 ⟨Nat.le_of_ble_eq_true rfl, Nat.le_of_ble_eq_true rfl⟩) (fun zi337 hp333 H locs hq336 hw hS => ?_)
        obtain ⟨ok334, F335, bd338, hc339, hc340⟩ := hq336
        have hw : PW G cy K ln Ls A hp333 H := hw
        rcases b01 bd338 with cn341 | cn341
        · skip
          subst cn341
          refine lv_if_eq (tgt := 40) hx hb dX5_cond_23 (by decide) (fun _ => ?_) (fun c => absurd (d_eq bc_0 bc_0) c)
          exact jn325 hp333 wl257 _ _ ls ok334 (Fr.tr (Fr.tr (Fr.rf) F260 (by decide)) F335 (by decide)) (lv_sub hl [2] rfl) hw hS
        · skip
          subst cn341
          obtain ⟨zi342, eq343, bd344⟩ := hc339 rfl
          obtain ⟨zi345, eq346, bd347⟩ := hc340 rfl
          refine lv_if_eq (tgt := 40) hx hb dX5_cond_23 (by decide) (fun c => absurd c (d_ne bc_1 bc_0 (by decide))) (fun _ => ?_)
          refine lv_lload_n hx hb dX5_cond_26 rfl (lv_at hl 2 rfl) ?_
          refine lv_aload_n hx hb dX5_cond_27 rfl (lv_at hl 0 rfl) ?_
          refine lv_iload_n hx hb dX5_cond_28 rfl (lv_at hl 1 rfl) ?_
          refine kq_l hw hS hA (va_runV (As := [.int zi901]) (rest := [.long wl257]) ⟨hx, hb, hml, hown, hT⟩ (cX5_all_2 l G cy ev K ln Ls hW _ hp333 ok334 qa900 zi901 kd900 (b_wid2 bd901 (by decide) (by decide))) (cwV 1 hT (good_V tb_914 tb_911 tb_913 tb_16 tb_109) rfl rfl rfl (by decide +kernel) ⟨Nat.le_of_ble_eq_true rfl, Nat.le_of_ble_eq_true rfl⟩) (pool_preV (ci := 5) hK hE hS hA hw hW kd900 (by decide) rfl) rfl rfl hl.1 rfl (lv_room (Nat.le_of_ble_eq_true rfl)) dX5_cond_29 ⟨Nat.le_of_ble_eq_true rfl, Nat.le_of_ble_eq_true rfl⟩) (fun wl352 hp348 H locs hq351 hw hS => ?_)
          obtain ⟨ok349, F350⟩ := hq351
          have hw : PW G cy K ln Ls A hp348 H := hw
          refine lv_lor hx hb dX5_cond_32 (lv_topl (fun wl353 _ => ?_))
          refine lv_lstore_n (lv' := [(2, .long wl353), (0, .ref qa900), (1, .int zi901), (4, .int zi258)]) hx hb dX5_cond_33 rfl hl (by decide) rfl (fun ls hl => ?_)
          obtain ⟨zi354, ea355⟩ : ∃ z : Int32, z = zi258 + 1 := ⟨_, rfl⟩
          have bd356 : (1 : Int) ≤ zi354.toInt ∧ zi354.toInt ≤ 401 := b_iadd ea355 bd332 bc_1 (by decide) (by decide) (by decide) (by decide)
          have qe357 : zi354.toInt = (zi258 : Int32).toInt + (1 : Int32).toInt := e_iadd ea355 bd332 bc_1 (by decide) (by decide)
          have qe358 : zi354.toInt = zi258.toInt + 1 := by have ha : (1 : Int32).toInt = 1 := (by decide); rw [ha] at qe357; exact qe357
          refine lv_iinc (v := zi354) (lv' := [(4, .int zi354), (2, .long wl353), (0, .ref qa900), (1, .int zi901)]) hx hb dX5_cond_34 hl (k := 3) rfl ea355.symm (by decide) rfl (fun ls hl => ?_)
          refine lv_goto (tgt := 9) hx hb dX5_cond_37 (by decide) ?_
          exact ih327 hp348 wl353 zi354 _ _ ls (by have := hm329; have := qe358; omega) ok349 (Fr.tr (Fr.tr (Fr.tr (Fr.rf) F260 (by decide)) F335 (by decide)) F350 (by decide)) (b_wid2 bd356 (by decide) (by decide)) (lv_sub hl [2, 3, 1, 0] rfl) hw hS
  exact lp328 _ hp1 wl5 0 _ _ ls (lp_in _) ok2 (Fr.rf) (b_wid2 bc_0 (by decide) (by decide)) (lv_sub hl [2, 3, 1, 0] rfl) hw hS

set_option maxRecDepth 100000 in
set_option maxHeartbeats 4000000 in
theorem cX5_literal_3 (l : Launch) (G : va_G) (cy : Nat → ClassId) (ev : Ew) (K ln : Nat → Nat) (Ls : List Nat) (hW : SW K ln Ls) (sz : Nat) (hp0 : Nat → Nat → Value) (ok0 : Ok K hp0) (qa900 : Nat) (zi901 : Int32) (kd900 : K qa900 = 6) (bd901 : ((3 : Int) ≤ zi901.toInt ∧ zi901.toInt ≤ 3)) : Met l yX5_literal (WS yX5_literal cX5_literal 6 (some .long)) { frames := 11, cells := 0, slots := 0, locals := 265 } (PB2 [.ref qa900, .int zi901] sz G cy ev (va_pl Ls (cellOf cy K ln hp0))) (QBl (S := (Nat → Nat → Value)) (fun (r : Int64) (u : (Nat → Nat → Value)) => Ok K u ∧ Fr [6002, 6003, 6004, 6005, 6006] K hp0 u) G (fun u => va_pl Ls (cellOf cy K ln u)) (va_A (va_pl Ls (cellOf cy K ln hp0)) sz)) 0 0 (va_A (va_pl Ls (cellOf cy K ln hp0)) sz) := by
  refine met_of2 (y := yX5_literal) (L := 6) (av := [.ref qa900, .int zi901]) (Qc := fun A => QBl (S := (Nat → Nat → Value)) (fun (r : Int64) (u : (Nat → Nat → Value)) => Ok K u ∧ Fr [6002, 6003, 6004, 6005, 6006] K hp0 u) G (fun u => va_pl Ls (cellOf cy K ln u)) A) (plainFor_of_name (by decide)) (Nat.le_of_ble_eq_true rfl) ?_
  intro p e s m below meth c hsz hx hb hr hml hown hT hlocks hin hK A hA hE hw hS ls hl
  have hw : PW G cy K ln Ls A hp0 s.heap := hw
  have hown : s.vm.findClass "LieClock$Parser" = some m.cls := hown
  have hl : lv_has ls 6 [(0, .ref qa900), (1, .int zi901)] := hl
  obtain ⟨Q, hQ⟩ : ∃ Q : State → Prop, Q = MQ below (QBl (S := (Nat → Nat → Value)) (fun (r : Int64) (u : (Nat → Nat → Value)) => Ok K u ∧ Fr [6002, 6003, 6004, 6005, 6006] K hp0 u) G (fun u => va_pl Ls (cellOf cy K ln u)) A) ([.ref qa900, .int zi901] : List Value).toArray s 0 0 A := ⟨_, rfl⟩
  rw [← hQ]
  refine lv_iconst (v := 0) hx hb dX5_literal_0 (by decide) ?_
  refine lv_istore_n (lv' := [(2, .int 0), (0, .ref qa900), (1, .int zi901)]) hx hb dX5_literal_1 rfl hl (by decide) rfl (fun ls hl => ?_)
  refine lv_iconst (v := 0) hx hb dX5_literal_2 (by decide) ?_
  refine lv_istore_n (lv' := [(3, .int 0), (2, .int 0), (0, .ref qa900), (1, .int zi901)]) hx hb dX5_literal_3 rfl hl (by decide) rfl (fun ls hl => ?_)
  have jn341 : ∀ (hp337 : Nat → Nat → Value) (zi336 : Int32) (H : Heap) (locs : List Loc) (ls : Array Slot), Ok K hp337 → Fr [6002, 6003, 6004] K hp0 hp337 → ((0 : Int) ≤ zi336.toInt ∧ zi336.toInt ≤ 1) → lv_has ls 6 [(0, .ref qa900), (1, .int zi901), (2, .int zi336)] → PW G cy K ln Ls A hp337 H → va_S A s.heap H locs → W p l e ({ frames := 11, cells := 0, slots := 0, locals := 265 } : Room) s m ([.ref qa900, .int zi901] : List Value).toArray below meth c H locs 0 0 Q (F0 m 36 ls []) := by
    intro hp337 zi336 H locs ls ok339 F338 bd340 hl hw hS
    refine lv_lconst (v := 0) hx hb dX5_literal_36 (by decide) ?_
    refine lv_lstore_n (lv' := [(3, .long 0), (0, .ref qa900), (1, .int zi901), (2, .int zi336)]) hx hb dX5_literal_37 rfl hl (by decide) rfl (fun ls hl => ?_)
    refine lv_aload_n hx hb dX5_literal_38 rfl (lv_at hl 1 rfl) ?_
    obtain ⟨zi343, eq342⟩ := rd_6003 ok339 kd900
    refine p_get (ci := 5) (v := .int zi343) (C := RX5) (T := TX5) (N := 7) hx hb hT iw_X5 hown hK hw hW kd900 (by decide) rfl rfl 3 (by decide) eq342 (hT _ tb_374) (fun _ h9 => h9) dX5_literal_39 ?_
    refine lv_bipush (v := 40) hx hb dX5_literal_42 (by decide) ?_
    have jn424 : ∀ (hp421 : Nat → Nat → Value) (wl420 : Int64) (H : Heap) (locs : List Loc) (ls : Array Slot), Ok K hp421 → Fr [6002, 6003, 6004, 6005, 6006] K hp337 hp421 → lv_has ls 6 [(2, .int zi336), (3, .long wl420)] → PW G cy K ln Ls A hp421 H → va_S A s.heap H locs → W p l e ({ frames := 11, cells := 0, slots := 0, locals := 265 } : Room) s m ([.ref qa900, .int zi901] : List Value).toArray below meth c H locs 0 0 Q (F0 m 113 ls []) := by
      intro hp421 wl420 H locs ls ok423 F422 hl hw hS
      refine lv_iload_n hx hb dX5_literal_113 rfl (lv_at hl 0 rfl) ?_
      refine lv_if_eq (tgt := 125) hx hb dX5_literal_114 (by decide) (fun cn425 => ?_) (fun cn425 => ?_)
      · skip
        have bd426 : (0 : Int) ≤ zi336.toInt ∧ zi336.toInt ≤ 0 := r_eq_x cn425 bd340 bc_0 (by decide) (by decide)
        refine lv_lload_n hx hb dX5_literal_125 rfl (lv_at hl 1 rfl) ?_
        rw [hQ]
        exact kz_l hx hb hr hlocks hS hp421 hw ⟨ok423, (Fr.tr (Fr.tr (Fr.rf) F338 (by decide)) F422 (by decide))⟩ (Nat.le_of_ble_eq_true rfl) (Nat.le_of_ble_eq_true rfl) dX5_literal_126
      · skip
        have bd427 : (1 : Int) ≤ zi336.toInt ∧ zi336.toInt ≤ 1 := r_ne_lo cn425 bd340 (toi bc_0) (by decide) (by decide)
        refine lv_lload_n hx hb dX5_literal_117 rfl (lv_at hl 1 rfl) ?_
        refine lv_ldc2 (v := (-1)) hx hb hown (hT _ tb_925) dX5_literal_118 ?_
        refine lv_lxor hx hb dX5_literal_121 (lv_topl (fun wl428 _ => ?_))
        refine lv_goto (tgt := 126) hx hb dX5_literal_122 (by decide) ?_
        rw [hQ]
        exact kz_l hx hb hr hlocks hS hp421 hw ⟨ok423, (Fr.tr (Fr.tr (Fr.rf) F338 (by decide)) F422 (by decide))⟩ (Nat.le_of_ble_eq_true rfl) (Nat.le_of_ble_eq_true rfl) dX5_literal_126
    refine lv_icmp_ne (tgt := 72) hx hb dX5_literal_44 (by decide) (fun cn344 => ?_) (fun cn344 => ?_)
    · skip
      refine lv_aload_n hx hb dX5_literal_72 rfl (lv_at hl 1 rfl) ?_
      obtain ⟨qa430, eq429, kd431⟩ := rd_6001 ok339 kd900
      refine p_get (ci := 5) (v := .ref qa430) (C := RX5) (T := TX5) (N := 7) hx hb hT iw_X5 hown hK hw hW kd900 (by decide) rfl rfl 1 (by decide) eq429 (hT _ tb_372) (fun _ h9 => h9) dX5_literal_73 ?_
      refine lv_aload_n hx hb dX5_literal_76 rfl (lv_at hl 1 rfl) ?_
      refine lv_iconst (v := 2) hx hb dX5_literal_77 (by decide) ?_
      refine kq_l hw hS hA (va_runV (As := [.int 2]) (rest := [.ref qa430]) ⟨hx, hb, hml, hown, hT⟩ (cX5_take_0 l G cy ev K ln Ls hW _ hp337 ok339 qa900 2 kd900) (cwV 1 hT (good_V tb_862 tb_859 tb_861 tb_10 tb_109) rfl rfl rfl (by decide +kernel) ⟨Nat.le_of_ble_eq_true rfl, Nat.le_of_ble_eq_true rfl⟩) (pool_preV (ci := 5) hK hE hS hA hw hW kd900 (by decide) rfl) rfl rfl hl.1 rfl (lv_room (Nat.le_of_ble_eq_true rfl)) dX5_literal_78 ⟨Nat.le_of_ble_eq_true rfl, Nat.le_of_ble_eq_true rfl⟩) (fun wl436 hp432 H locs hq435 hw hS => ?_)
      obtain ⟨ok433, F434⟩ := hq435
      have hw : PW G cy K ln Ls A hp432 H := hw
      refine kq_i hw hS hA (va_runV (As := [.long wl436]) (rest := []) ⟨hx, hb, hml, hown, hT⟩ (cX10_factNamed_0 l G cy ev K ln Ls hW _ hp432 ok433 qa430 wl436 kd431) (cwV 1 hT (good_V tb_870 tb_923 tb_868 tb_869 tb_107) rfl rfl rfl (by decide +kernel) ⟨Nat.le_of_ble_eq_true rfl, Nat.le_of_ble_eq_true rfl⟩) (pool_preV (ci := 10) hK hE hS hA hw hW kd431 (by decide) rfl) rfl rfl hl.1 rfl (lv_room (Nat.le_of_ble_eq_true rfl)) dX5_literal_81 ⟨Nat.le_of_ble_eq_true rfl, Nat.le_of_ble_eq_true rfl⟩) (fun zi441 hp437 H locs hq440 hw hS => ?_)
      obtain ⟨ok438, F439, bd442⟩ := hq440
      obtain rfl : hp432 = hp437 := (Fr.nil F439).symm
      have hw : PW G cy K ln Ls A hp432 H := hw
      refine lv_istore (lv' := [(5, .int zi441), (3, .long 0), (0, .ref qa900), (1, .int zi901), (2, .int zi336)]) hx hb dX5_literal_84 hl (by decide) rfl (fun ls hl => ?_)
      refine lv_iload hx hb dX5_literal_86 (lv_at hl 0 rfl) ?_
      refine lv_if_lt (tgt := 108) hx hb dX5_literal_88 (by decide) (fun cn443 => ?_) (fun cn443 => ?_)
      · skip
        have bd444 : (-1 : Int) ≤ zi441.toInt ∧ zi441.toInt ≤ -1 := r_lt_x cn443 bd442 bc_0 (by decide) (by decide)
        refine lv_aload_n hx hb dX5_literal_108 rfl (lv_at hl 2 rfl) ?_
        refine lv_iconst (v := 4) hx hb dX5_literal_109 (by decide) ?_
        refine kq_v hw hS hA (va_runV (As := [.int 4]) (rest := []) ⟨hx, hb, hml, hown, hT⟩ (cX5_failSoftly_0 l G cy ev K ln Ls hW _ hp432 ok433 qa900 4 kd900) (cwV 1 hT (good_V tb_881 tb_878 tb_880 tb_11 tb_109) rfl rfl rfl (by decide +kernel) ⟨Nat.le_of_ble_eq_true rfl, Nat.le_of_ble_eq_true rfl⟩) (pool_preV (ci := 5) hK hE hS hA hw hW kd900 (by decide) rfl) rfl rfl hl.1 rfl (lv_room (Nat.le_of_ble_eq_true rfl)) dX5_literal_110 ⟨Nat.le_of_ble_eq_true rfl, Nat.le_of_ble_eq_true rfl⟩) (fun hp445 H locs hq448 hw hS => ?_)
        obtain ⟨ok446, F447⟩ := hq448
        have hw : PW G cy K ln Ls A hp445 H := hw
        exact jn424 hp445 0 _ _ ls ok446 (Fr.tr (Fr.tr (Fr.rf) F434 (by decide)) F447 (by decide)) (lv_sub hl [4, 1] rfl) hw hS
      · skip
        have bd450 : (0 : Int) ≤ zi441.toInt ∧ zi441.toInt ≤ 5 := r_le_y (Int32.not_lt.mp cn443) bc_0 bd442 (by decide) (by decide)
        refine lv_iload hx hb dX5_literal_91 (lv_at hl 0 rfl) ?_
        refine lv_bipush (v := 6) hx hb dX5_literal_93 (by decide) ?_
        refine lv_icmp_ge (tgt := 108) hx hb dX5_literal_95 (by decide) (fun c => absurd c (d_nle bc_6 bd450 (by decide))) (fun _ => ?_)
        refine va_getsN hx hb hE.2.1 hS hown (hK.fl nw_820) (fun _ h9 => h9) dX5_literal_98 ?_
        refine lv_iload hx hb dX5_literal_101 (lv_at hl 0 rfl) ?_
        obtain ⟨wl451, _⟩ : ∃ w : Int64, w = ev.2.2 (zi441 : Int32).toNatClampNeg := ⟨_, rfl⟩
        refine va_tl (v := .long (ev.2.2 (zi441 : Int32).toNatClampNeg)) hx hb hE.2.2 hS (vp_b bd450 (by decide) (by decide)) rfl dX5_literal_103 (lv_topl (fun wl451x _ => ?_))
        refine lv_lstore_n (lv' := [(3, .long wl451x), (5, .int zi441), (0, .ref qa900), (1, .int zi901), (2, .int zi336)]) hx hb dX5_literal_104 rfl hl (by decide) rfl (fun ls hl => ?_)
        refine lv_goto (tgt := 113) hx hb dX5_literal_105 (by decide) ?_
        exact jn424 hp432 wl451x _ _ ls ok433 (Fr.tr (Fr.rf) F434 (by decide)) (lv_sub hl [4, 0] rfl) hw hS
    · skip
      have bd452 : (40 : Int) ≤ zi343.toInt ∧ zi343.toInt ≤ 40 := r_eq_x cn344 (b_all zi343) bc_40 (by decide) (by decide)
      refine lv_aload_n hx hb dX5_literal_47 rfl (lv_at hl 1 rfl) ?_
      refine lv_iload_n hx hb dX5_literal_48 rfl (lv_at hl 2 rfl) ?_
      refine kq_i hw hS hA (va_runV (As := [.int zi901]) (rest := []) ⟨hx, hb, hml, hown, hT⟩ (cX5_enter_3 l G cy ev K ln Ls hW _ hp337 ok339 qa900 zi901 kd900 (b_wid2 bd901 (by decide) (by decide))) (cwV 1 hT (good_V tb_922 tb_919 tb_921 tb_18 tb_109) rfl rfl rfl (by decide +kernel) ⟨Nat.le_of_ble_eq_true rfl, Nat.le_of_ble_eq_true rfl⟩) (pool_preV (ci := 5) hK hE hS hA hw hW kd900 (by decide) rfl) rfl rfl hl.1 rfl (lv_room (Nat.le_of_ble_eq_true rfl)) dX5_literal_49 ⟨Nat.le_of_ble_eq_true rfl, Nat.le_of_ble_eq_true rfl⟩) (fun zi457 hp453 H locs hq456 hw hS => ?_)
      obtain ⟨ok454, F455, bd458, hc459, hc460⟩ := hq456
      have hw : PW G cy K ln Ls A hp453 H := hw
      have jn482 : ∀ (hp479 : Nat → Nat → Value) (wl478 : Int64) (H : Heap) (locs : List Loc) (ls : Array Slot), Ok K hp479 → Fr [6002, 6003, 6004, 6005, 6006] K hp453 hp479 → lv_has ls 6 [(0, .ref qa900), (2, .int zi336), (3, .long wl478)] → PW G cy K ln Ls A hp479 H → va_S A s.heap H locs → W p l e ({ frames := 11, cells := 0, slots := 0, locals := 265 } : Room) s m ([.ref qa900, .int zi901] : List Value).toArray below meth c H locs 0 0 Q (F0 m 63 ls []) := by
        intro hp479 wl478 H locs ls ok481 F480 hl hw hS
        refine lv_aload_n hx hb dX5_literal_63 rfl (lv_at hl 0 rfl) ?_
        refine lv_bipush (v := 41) hx hb dX5_literal_64 (by decide) ?_
        refine kq_v hw hS hA (va_runV (As := [.int 41]) (rest := []) ⟨hx, hb, hml, hown, hT⟩ (cX5_expect_0 l G cy ev K ln Ls hW _ hp479 ok481 qa900 41 kd900) (cwV 1 hT (good_V tb_889 tb_886 tb_888 tb_12 tb_109) rfl rfl rfl (by decide +kernel) ⟨Nat.le_of_ble_eq_true rfl, Nat.le_of_ble_eq_true rfl⟩) (pool_preV (ci := 5) hK hE hS hA hw hW kd900 (by decide) rfl) rfl rfl hl.1 rfl (lv_room (Nat.le_of_ble_eq_true rfl)) dX5_literal_66 ⟨Nat.le_of_ble_eq_true rfl, Nat.le_of_ble_eq_true rfl⟩) (fun hp483 H locs hq486 hw hS => ?_)
        obtain ⟨ok484, F485⟩ := hq486
        have hw : PW G cy K ln Ls A hp483 H := hw
        refine lv_goto (tgt := 113) hx hb dX5_literal_69 (by decide) ?_
        exact jn424 hp483 wl478 _ _ ls ok484 (Fr.tr (Fr.tr (Fr.tr (Fr.rf) F455 (by decide)) F480 (by decide)) F485 (by decide)) (lv_sub hl [1, 2] rfl) hw hS
      rcases b01 bd458 with cn461 | cn461
      · skip
        subst cn461
        refine lv_if_eq (tgt := 63) hx hb dX5_literal_52 (by decide) (fun _ => ?_) (fun c => absurd (d_eq bc_0 bc_0) c)
        exact jn482 hp453 0 _ _ ls ok454 (Fr.rf) (lv_sub hl [1, 3, 0] rfl) hw hS
      · skip
        subst cn461
        obtain ⟨zi488, eq489, bd490⟩ := hc459 rfl
        obtain ⟨zi491, eq492, bd493⟩ := hc460 rfl
        refine lv_if_eq (tgt := 63) hx hb dX5_literal_52 (by decide) (fun c => absurd c (d_ne bc_1 bc_0 (by decide))) (fun _ => ?_)
        refine lv_aload_n hx hb dX5_literal_55 rfl (lv_at hl 1 rfl) ?_
        refine lv_iload_n hx hb dX5_literal_56 rfl (lv_at hl 2 rfl) ?_
        refine lv_iconst (v := 1) hx hb dX5_literal_57 (by decide) ?_
        refine lv_iadd hx hb dX5_literal_58 (lv_topi (fun zi494 ea495 => ?_))
        have bd496 : (4 : Int) ≤ zi494.toInt ∧ zi494.toInt ≤ 4 := b_iadd ea495 bd901 bc_1 (by decide) (by decide) (by decide) (by decide)
        have qe497 : zi494.toInt = (zi901 : Int32).toInt + (1 : Int32).toInt := e_iadd ea495 bd901 bc_1 (by decide) (by decide)
        have qe498 : zi494.toInt = zi901.toInt + 1 := by have ha : (1 : Int32).toInt = 1 := (by decide); rw [ha] at qe497; exact qe497
        refine kq_l hw hS hA (va_runV (As := [.int zi494]) (rest := []) ⟨hx, hb, hml, hown, hT⟩ (cX5_cond_2 l G cy ev K ln Ls hW _ hp453 ok454 qa900 zi494 kd900 (b_wid2 bd496 (by decide) (by decide))) (cwV 1 hT (good_V tb_910 tb_907 tb_909 tb_15 tb_109) rfl rfl rfl (by decide +kernel) ⟨Nat.le_of_ble_eq_true rfl, Nat.le_of_ble_eq_true rfl⟩) (pool_preV (ci := 5) hK hE hS hA hw hW kd900 (by decide) rfl) rfl rfl hl.1 rfl (lv_room (Nat.le_of_ble_eq_true rfl)) dX5_literal_59 ⟨Nat.le_of_ble_eq_true rfl, Nat.le_of_ble_eq_true rfl⟩) (fun wl503 hp499 H locs hq502 hw hS => ?_)
        obtain ⟨ok500, F501⟩ := hq502
        have hw : PW G cy K ln Ls A hp499 H := hw
        refine lv_lstore_n (lv' := [(3, .long wl503), (0, .ref qa900), (1, .int zi901), (2, .int zi336)]) hx hb dX5_literal_62 rfl hl (by decide) rfl (fun ls hl => ?_)
        exact jn482 hp499 wl503 _ _ ls ok500 (Fr.tr (Fr.rf) F501 (by decide)) (lv_sub hl [1, 3, 0] rfl) hw hS
  have lp506 : ∀ (n504 : Nat) (hp269 : Nat → Nat → Value) (zi267 : Int32) (zi268 : Int32) (H : Heap) (locs : List Loc) (ls : Array Slot), 401 - zi268.toInt < (n504 : Int) → Ok K hp269 → Fr [6002, 6003, 6004] K hp0 hp269 → ((0 : Int) ≤ zi267.toInt ∧ zi267.toInt ≤ 1) → ((0 : Int) ≤ zi268.toInt ∧ zi268.toInt ≤ 401) → lv_has ls 6 [(0, .ref qa900), (1, .int zi901), (2, .int zi267), (3, .int zi268)] → PW G cy K ln Ls A hp269 H → va_S A s.heap H locs → W p l e ({ frames := 11, cells := 0, slots := 0, locals := 265 } : Room) s m ([.ref qa900, .int zi901] : List Value).toArray below meth c H locs 0 0 Q (F0 m 4 ls []) := by
    intro n504
    induction n504 with
    | zero =>
      intro hp269 zi267 zi268 H locs ls hm507 ok271 F270 bd272 bd273 hl hw hS
      exact absurd hm507 (by have := bd273; omega)
    | succ n504 ih505 =>
      intro hp269 zi267 zi268 H locs ls hm507 ok271 F270 bd272 bd273 hl hw hS
      refine lv_iload_n hx hb dX5_literal_4 rfl (lv_at hl 3 rfl) ?_
      refine lv_sipush (v := 400) hx hb dX5_literal_5 (by decide) ?_
      refine lv_icmp_gt (tgt := 36) hx hb dX5_literal_8 (by decide) (fun cn508 => ?_) (fun cn508 => ?_)
      · skip
        have bd509 : (401 : Int) ≤ zi268.toInt ∧ zi268.toInt ≤ 401 := r_lt_y cn508 bc_400 bd273 (by decide) (by decide)
        exact jn341 hp269 zi267 _ _ ls ok271 (Fr.tr (Fr.rf) F270 (by decide)) (b_wid2 bd272 (by decide) (by decide)) (lv_sub hl [0, 1, 2] rfl) hw hS
      · skip
        have bd510 : (0 : Int) ≤ zi268.toInt ∧ zi268.toInt ≤ 400 := r_le_x (Int32.not_lt.mp cn508) bd273 bc_400 (by decide) (by decide)
        refine lv_aload_n hx hb dX5_literal_11 rfl (lv_at hl 0 rfl) ?_
        refine lv_bipush (v := 113) hx hb dX5_literal_12 (by decide) ?_
        refine kq_i hw hS hA (va_runV (As := [.int 113]) (rest := []) ⟨hx, hb, hml, hown, hT⟩ (cX5_accept_0 l G cy ev K ln Ls hW _ hp269 ok271 qa900 113 kd900) (cwV 1 hT (good_V tb_854 tb_851 tb_853 tb_8 tb_109) rfl rfl rfl (by decide +kernel) ⟨Nat.le_of_ble_eq_true rfl, Nat.le_of_ble_eq_true rfl⟩) (pool_preV (ci := 5) hK hE hS hA hw hW kd900 (by decide) rfl) rfl rfl hl.1 rfl (lv_room (Nat.le_of_ble_eq_true rfl)) dX5_literal_14 ⟨Nat.le_of_ble_eq_true rfl, Nat.le_of_ble_eq_true rfl⟩) (fun zi515 hp511 H locs hq514 hw hS => ?_)
        obtain ⟨ok512, F513, bd516, hc517, hc518⟩ := hq514
        have hw : PW G cy K ln Ls A hp511 H := hw
        rcases b01 bd516 with cn519 | cn519
        · skip
          subst cn519
          refine lv_if_eq (tgt := 36) hx hb dX5_literal_17 (by decide) (fun _ => ?_) (fun c => absurd (d_eq bc_0 bc_0) c)
          exact jn341 hp511 zi267 _ _ ls ok512 (Fr.tr (Fr.tr (Fr.rf) F270 (by decide)) F513 (by decide)) (b_wid2 bd272 (by decide) (by decide)) (lv_sub hl [0, 1, 2] rfl) hw hS
        · skip
          subst cn519
          obtain ⟨zi520, eq521, bd522⟩ := hc517 rfl
          obtain ⟨zi523, eq524, bd525⟩ := hc518 rfl
          refine lv_if_eq (tgt := 36) hx hb dX5_literal_17 (by decide) (fun c => absurd c (d_ne bc_1 bc_0 (by decide))) (fun _ => ?_)
          refine lv_iload_n hx hb dX5_literal_20 rfl (lv_at hl 2 rfl) ?_
          have jn531 : ∀ (zi529 : Int32) (H : Heap) (locs : List Loc) (ls : Array Slot), ((0 : Int) ≤ zi529.toInt ∧ zi529.toInt ≤ 1) → lv_has ls 6 [(0, .ref qa900), (1, .int zi901), (3, .int zi268)] → PW G cy K ln Ls A hp511 H → va_S A s.heap H locs → W p l e ({ frames := 11, cells := 0, slots := 0, locals := 265 } : Room) s m ([.ref qa900, .int zi901] : List Value).toArray below meth c H locs 0 0 Q (F0 m 29 ls [.int zi529]) := by
            intro zi529 H locs ls bd530 hl hw hS
            refine lv_istore_n (lv' := [(2, .int zi529), (0, .ref qa900), (1, .int zi901), (3, .int zi268)]) hx hb dX5_literal_29 rfl hl (by decide) rfl (fun ls hl => ?_)
            obtain ⟨zi532, ea533⟩ : ∃ z : Int32, z = zi268 + 1 := ⟨_, rfl⟩
            have bd534 : (1 : Int) ≤ zi532.toInt ∧ zi532.toInt ≤ 401 := b_iadd ea533 bd510 bc_1 (by decide) (by decide) (by decide) (by decide)
            have qe535 : zi532.toInt = (zi268 : Int32).toInt + (1 : Int32).toInt := e_iadd ea533 bd510 bc_1 (by decide) (by decide)
            have qe536 : zi532.toInt = zi268.toInt + 1 := by have ha : (1 : Int32).toInt = 1 := (by decide); rw [ha] at qe535; exact qe535
            refine lv_iinc (v := zi532) (lv' := [(3, .int zi532), (2, .int zi529), (0, .ref qa900), (1, .int zi901)]) hx hb dX5_literal_30 hl (k := 3) rfl ea533.symm (by decide) rfl (fun ls hl => ?_)
            refine lv_goto (tgt := 4) hx hb dX5_literal_33 (by decide) ?_
            exact ih505 hp511 zi529 zi532 _ _ ls (by have := hm507; have := qe536; omega) ok512 (Fr.tr (Fr.tr (Fr.rf) F270 (by decide)) F513 (by decide)) (b_wid2 bd530 (by decide) (by decide)) (b_wid2 bd534 (by decide) (by decide)) (lv_sub hl [2, 3, 1, 0] rfl) hw hS
          refine lv_if_ne (tgt := 28) hx hb dX5_literal_21 (by decide) (fun cn526 => ?_) (fun cn526 => ?_)
          · skip
            have bd537 : (1 : Int) ≤ zi267.toInt ∧ zi267.toInt ≤ 1 := r_ne_lo cn526 bd272 (toi bc_0) (by decide) (by decide)
            refine lv_iconst (v := 0) hx hb dX5_literal_28 (by decide) ?_
            exact jn531 0 _ _ ls (b_wid2 bc_0 (by decide) (by decide)) (lv_sub hl [0, 1, 3] rfl) hw hS
          · skip
            have bd538 : (0 : Int) ≤ zi267.toInt ∧ zi267.toInt ≤ 0 := r_eq_x cn526 bd272 bc_0 (by decide) (by decide)
            refine lv_iconst (v := 1) hx hb dX5_literal_24 (by decide) ?_
            refine lv_goto (tgt := 29) hx hb dX5_literal_25 (by decide) ?_
            exact jn531 1 _ _ ls (b_wid2 bc_1 (by decide) (by decide)) (lv_sub hl [0, 1, 3] rfl) hw hS
  exact lp506 _ hp0 0 0 _ _ ls (lp_in _) ok0 (Fr.rf) (b_wid2 bc_0 (by decide) (by decide)) (b_wid2 bc_0 (by decide) (by decide)) (lv_sub hl [2, 3, 1, 0] rfl) hw hS

set_option maxRecDepth 100000 in
set_option maxHeartbeats 4000000 in
theorem cX5_all_3 (l : Launch) (G : va_G) (cy : Nat → ClassId) (ev : Ew) (K ln : Nat → Nat) (Ls : List Nat) (hW : SW K ln Ls) (sz : Nat) (hp0 : Nat → Nat → Value) (ok0 : Ok K hp0) (qa900 : Nat) (zi901 : Int32) (kd900 : K qa900 = 6) (bd901 : ((3 : Int) ≤ zi901.toInt ∧ zi901.toInt ≤ 3)) : Met l yX5_all (WS yX5_all cX5_all 5 (some .long)) { frames := 12, cells := 0, slots := 0, locals := 290 } (PB2 [.ref qa900, .int zi901] sz G cy ev (va_pl Ls (cellOf cy K ln hp0))) (QBl (S := (Nat → Nat → Value)) (fun (r : Int64) (u : (Nat → Nat → Value)) => Ok K u ∧ Fr [6002, 6003, 6004, 6005, 6006] K hp0 u) G (fun u => va_pl Ls (cellOf cy K ln u)) (va_A (va_pl Ls (cellOf cy K ln hp0)) sz)) 0 0 (va_A (va_pl Ls (cellOf cy K ln hp0)) sz) := by
  refine met_of2 (y := yX5_all) (L := 5) (av := [.ref qa900, .int zi901]) (Qc := fun A => QBl (S := (Nat → Nat → Value)) (fun (r : Int64) (u : (Nat → Nat → Value)) => Ok K u ∧ Fr [6002, 6003, 6004, 6005, 6006] K hp0 u) G (fun u => va_pl Ls (cellOf cy K ln u)) A) (plainFor_of_name (by decide)) (Nat.le_of_ble_eq_true rfl) ?_
  intro p e s m below meth c hsz hx hb hr hml hown hT hlocks hin hK A hA hE hw hS ls hl
  have hw : PW G cy K ln Ls A hp0 s.heap := hw
  have hown : s.vm.findClass "LieClock$Parser" = some m.cls := hown
  have hl : lv_has ls 5 [(0, .ref qa900), (1, .int zi901)] := hl
  obtain ⟨Q, hQ⟩ : ∃ Q : State → Prop, Q = MQ below (QBl (S := (Nat → Nat → Value)) (fun (r : Int64) (u : (Nat → Nat → Value)) => Ok K u ∧ Fr [6002, 6003, 6004, 6005, 6006] K hp0 u) G (fun u => va_pl Ls (cellOf cy K ln u)) A) ([.ref qa900, .int zi901] : List Value).toArray s 0 0 A := ⟨_, rfl⟩
  rw [← hQ]
  refine lv_aload_n hx hb dX5_all_0 rfl (lv_at hl 0 rfl) ?_
  refine lv_iload_n hx hb dX5_all_1 rfl (lv_at hl 1 rfl) ?_
  refine kq_l hw hS hA (va_runV (As := [.int zi901]) (rest := []) ⟨hx, hb, hml, hown, hT⟩ (cX5_literal_3 l G cy ev K ln Ls hW _ hp0 ok0 qa900 zi901 kd900 (b_wid2 bd901 (by decide) (by decide))) (cwV 1 hT (good_V tb_918 tb_915 tb_917 tb_17 tb_109) rfl rfl rfl (by decide +kernel) ⟨Nat.le_of_ble_eq_true rfl, Nat.le_of_ble_eq_true rfl⟩) (pool_preV (ci := 5) hK hE hS hA hw hW kd900 (by decide) rfl) rfl rfl hl.1 rfl (lv_room (Nat.le_of_ble_eq_true rfl)) dX5_all_2 ⟨Nat.le_of_ble_eq_true rfl, Nat.le_of_ble_eq_true rfl⟩) (fun wl5 hp1 H locs hq4 hw hS => ?_)
  obtain ⟨ok2, F3⟩ := hq4
  have hw : PW G cy K ln Ls A hp1 H := hw
  refine lv_lstore_n (lv' := [(2, .long wl5), (0, .ref qa900), (1, .int zi901)]) hx hb dX5_all_5 rfl hl (by decide) rfl (fun ls hl => ?_)
  refine lv_iconst (v := 0) hx hb dX5_all_6 (by decide) ?_
  refine lv_istore (lv' := [(4, .int 0), (2, .long wl5), (0, .ref qa900), (1, .int zi901)]) hx hb dX5_all_7 hl (by decide) rfl (fun ls hl => ?_)
  have jn325 : ∀ (hp322 : Nat → Nat → Value) (wl321 : Int64) (H : Heap) (locs : List Loc) (ls : Array Slot), Ok K hp322 → Fr [6002, 6003, 6004, 6005, 6006] K hp1 hp322 → lv_has ls 5 [(2, .long wl321)] → PW G cy K ln Ls A hp322 H → va_S A s.heap H locs → W p l e ({ frames := 12, cells := 0, slots := 0, locals := 290 } : Room) s m ([.ref qa900, .int zi901] : List Value).toArray below meth c H locs 0 0 Q (F0 m 40 ls []) := by
    intro hp322 wl321 H locs ls ok324 F323 hl hw hS
    refine lv_lload_n hx hb dX5_all_40 rfl (lv_at hl 0 rfl) ?_
    rw [hQ]
    exact kz_l hx hb hr hlocks hS hp322 hw ⟨ok324, (Fr.tr (Fr.tr (Fr.rf) F3 (by decide)) F323 (by decide))⟩ (Nat.le_of_ble_eq_true rfl) (Nat.le_of_ble_eq_true rfl) dX5_all_41
  have lp328 : ∀ (n326 : Nat) (hp259 : Nat → Nat → Value) (wl257 : Int64) (zi258 : Int32) (H : Heap) (locs : List Loc) (ls : Array Slot), 401 - zi258.toInt < (n326 : Int) → Ok K hp259 → Fr [6002, 6003, 6004, 6005, 6006] K hp1 hp259 → ((0 : Int) ≤ zi258.toInt ∧ zi258.toInt ≤ 401) → lv_has ls 5 [(0, .ref qa900), (1, .int zi901), (2, .long wl257), (4, .int zi258)] → PW G cy K ln Ls A hp259 H → va_S A s.heap H locs → W p l e ({ frames := 12, cells := 0, slots := 0, locals := 290 } : Room) s m ([.ref qa900, .int zi901] : List Value).toArray below meth c H locs 0 0 Q (F0 m 9 ls []) := by
    intro n326
    induction n326 with
    | zero =>
      intro hp259 wl257 zi258 H locs ls hm329 ok261 F260 bd262 hl hw hS
      exact absurd hm329 (by have := bd262; omega)
    | succ n326 ih327 =>
      intro hp259 wl257 zi258 H locs ls hm329 ok261 F260 bd262 hl hw hS
      refine lv_iload hx hb dX5_all_9 (lv_at hl 3 rfl) ?_
      refine lv_sipush (v := 400) hx hb dX5_all_11 (by decide) ?_
      refine lv_icmp_gt (tgt := 40) hx hb dX5_all_14 (by decide) (fun cn330 => ?_) (fun cn330 => ?_)
      · skip
        have bd331 : (401 : Int) ≤ zi258.toInt ∧ zi258.toInt ≤ 401 := r_lt_y cn330 bc_400 bd262 (by decide) (by decide)
        exact jn325 hp259 wl257 _ _ ls ok261 (Fr.tr (Fr.rf) F260 (by decide)) (lv_sub hl [2] rfl) hw hS
      · skip
        have bd332 : (0 : Int) ≤ zi258.toInt ∧ zi258.toInt ≤ 400 := r_le_x (Int32.not_lt.mp cn330) bd262 bc_400 (by decide) (by decide)
        refine lv_aload_n hx hb dX5_all_17 rfl (lv_at hl 0 rfl) ?_
        refine lv_bipush (v := 112) hx hb dX5_all_18 (by decide) ?_
        refine kq_i hw hS hA (va_runV (As := [.int 112]) (rest := []) ⟨hx, hb, hml, hown, hT⟩ (cX5_accept_0 l G cy ev K ln Ls hW _ hp259 ok261 qa900 112 kd900) (cwV 1 hT (good_V tb_854 tb_851 tb_853 tb_8 tb_109) rfl rfl rfl (by decide +kernel) ⟨Nat.le_of_ble_eq_true rfl, Nat.le_of_ble_eq_true rfl⟩) (pool_preV (ci := 5) hK hE hS hA hw hW kd900 (by decide) rfl) rfl rfl hl.1 rfl (lv_room (Nat.le_of_ble_eq_true rfl)) dX5_all_20 ⟨Nat.le_of_ble_eq_true rfl, Nat.le_of_ble_eq_true rfl⟩) (fun zi337 hp333 H locs hq336 hw hS => ?_)
        obtain ⟨ok334, F335, bd338, hc339, hc340⟩ := hq336
        have hw : PW G cy K ln Ls A hp333 H := hw
        rcases b01 bd338 with cn341 | cn341
        · skip
          subst cn341
          refine lv_if_eq (tgt := 40) hx hb dX5_all_23 (by decide) (fun _ => ?_) (fun c => absurd (d_eq bc_0 bc_0) c)
          exact jn325 hp333 wl257 _ _ ls ok334 (Fr.tr (Fr.tr (Fr.rf) F260 (by decide)) F335 (by decide)) (lv_sub hl [2] rfl) hw hS
        · skip
          subst cn341
          obtain ⟨zi342, eq343, bd344⟩ := hc339 rfl
          obtain ⟨zi345, eq346, bd347⟩ := hc340 rfl
          refine lv_if_eq (tgt := 40) hx hb dX5_all_23 (by decide) (fun c => absurd c (d_ne bc_1 bc_0 (by decide))) (fun _ => ?_)
          refine lv_lload_n hx hb dX5_all_26 rfl (lv_at hl 2 rfl) ?_
          refine lv_aload_n hx hb dX5_all_27 rfl (lv_at hl 0 rfl) ?_
          refine lv_iload_n hx hb dX5_all_28 rfl (lv_at hl 1 rfl) ?_
          refine kq_l hw hS hA (va_runV (As := [.int zi901]) (rest := [.long wl257]) ⟨hx, hb, hml, hown, hT⟩ (cX5_literal_3 l G cy ev K ln Ls hW _ hp333 ok334 qa900 zi901 kd900 (b_wid2 bd901 (by decide) (by decide))) (cwV 1 hT (good_V tb_918 tb_915 tb_917 tb_17 tb_109) rfl rfl rfl (by decide +kernel) ⟨Nat.le_of_ble_eq_true rfl, Nat.le_of_ble_eq_true rfl⟩) (pool_preV (ci := 5) hK hE hS hA hw hW kd900 (by decide) rfl) rfl rfl hl.1 rfl (lv_room (Nat.le_of_ble_eq_true rfl)) dX5_all_29 ⟨Nat.le_of_ble_eq_true rfl, Nat.le_of_ble_eq_true rfl⟩) (fun wl352 hp348 H locs hq351 hw hS => ?_)
          obtain ⟨ok349, F350⟩ := hq351
          have hw : PW G cy K ln Ls A hp348 H := hw
          refine lv_land hx hb dX5_all_32 (lv_topl (fun wl353 _ => ?_))
          refine lv_lstore_n (lv' := [(2, .long wl353), (0, .ref qa900), (1, .int zi901), (4, .int zi258)]) hx hb dX5_all_33 rfl hl (by decide) rfl (fun ls hl => ?_)
          obtain ⟨zi354, ea355⟩ : ∃ z : Int32, z = zi258 + 1 := ⟨_, rfl⟩
          have bd356 : (1 : Int) ≤ zi354.toInt ∧ zi354.toInt ≤ 401 := b_iadd ea355 bd332 bc_1 (by decide) (by decide) (by decide) (by decide)
          have qe357 : zi354.toInt = (zi258 : Int32).toInt + (1 : Int32).toInt := e_iadd ea355 bd332 bc_1 (by decide) (by decide)
          have qe358 : zi354.toInt = zi258.toInt + 1 := by have ha : (1 : Int32).toInt = 1 := (by decide); rw [ha] at qe357; exact qe357
          refine lv_iinc (v := zi354) (lv' := [(4, .int zi354), (2, .long wl353), (0, .ref qa900), (1, .int zi901)]) hx hb dX5_all_34 hl (k := 3) rfl ea355.symm (by decide) rfl (fun ls hl => ?_)
          refine lv_goto (tgt := 9) hx hb dX5_all_37 (by decide) ?_
          exact ih327 hp348 wl353 zi354 _ _ ls (by have := hm329; have := qe358; omega) ok349 (Fr.tr (Fr.tr (Fr.tr (Fr.rf) F260 (by decide)) F335 (by decide)) F350 (by decide)) (b_wid2 bd356 (by decide) (by decide)) (lv_sub hl [2, 3, 1, 0] rfl) hw hS
  exact lp328 _ hp1 wl5 0 _ _ ls (lp_in _) ok2 (Fr.rf) (b_wid2 bc_0 (by decide) (by decide)) (lv_sub hl [2, 3, 1, 0] rfl) hw hS

set_option maxRecDepth 100000 in
set_option maxHeartbeats 4000000 in
theorem cX5_cond_3 (l : Launch) (G : va_G) (cy : Nat → ClassId) (ev : Ew) (K ln : Nat → Nat) (Ls : List Nat) (hW : SW K ln Ls) (sz : Nat) (hp0 : Nat → Nat → Value) (ok0 : Ok K hp0) (qa900 : Nat) (zi901 : Int32) (kd900 : K qa900 = 6) (bd901 : ((3 : Int) ≤ zi901.toInt ∧ zi901.toInt ≤ 3)) : Met l yX5_cond (WS yX5_cond cX5_cond 5 (some .long)) { frames := 13, cells := 0, slots := 0, locals := 314 } (PB2 [.ref qa900, .int zi901] sz G cy ev (va_pl Ls (cellOf cy K ln hp0))) (QBl (S := (Nat → Nat → Value)) (fun (r : Int64) (u : (Nat → Nat → Value)) => Ok K u ∧ Fr [6002, 6003, 6004, 6005, 6006] K hp0 u) G (fun u => va_pl Ls (cellOf cy K ln u)) (va_A (va_pl Ls (cellOf cy K ln hp0)) sz)) 0 0 (va_A (va_pl Ls (cellOf cy K ln hp0)) sz) := by
  refine met_of2 (y := yX5_cond) (L := 5) (av := [.ref qa900, .int zi901]) (Qc := fun A => QBl (S := (Nat → Nat → Value)) (fun (r : Int64) (u : (Nat → Nat → Value)) => Ok K u ∧ Fr [6002, 6003, 6004, 6005, 6006] K hp0 u) G (fun u => va_pl Ls (cellOf cy K ln u)) A) (plainFor_of_name (by decide)) (Nat.le_of_ble_eq_true rfl) ?_
  intro p e s m below meth c hsz hx hb hr hml hown hT hlocks hin hK A hA hE hw hS ls hl
  have hw : PW G cy K ln Ls A hp0 s.heap := hw
  have hown : s.vm.findClass "LieClock$Parser" = some m.cls := hown
  have hl : lv_has ls 5 [(0, .ref qa900), (1, .int zi901)] := hl
  obtain ⟨Q, hQ⟩ : ∃ Q : State → Prop, Q = MQ below (QBl (S := (Nat → Nat → Value)) (fun (r : Int64) (u : (Nat → Nat → Value)) => Ok K u ∧ Fr [6002, 6003, 6004, 6005, 6006] K hp0 u) G (fun u => va_pl Ls (cellOf cy K ln u)) A) ([.ref qa900, .int zi901] : List Value).toArray s 0 0 A := ⟨_, rfl⟩
  rw [← hQ]
  refine lv_aload_n hx hb dX5_cond_0 rfl (lv_at hl 0 rfl) ?_
  refine lv_iload_n hx hb dX5_cond_1 rfl (lv_at hl 1 rfl) ?_
  refine kq_l hw hS hA (va_runV (As := [.int zi901]) (rest := []) ⟨hx, hb, hml, hown, hT⟩ (cX5_all_3 l G cy ev K ln Ls hW _ hp0 ok0 qa900 zi901 kd900 (b_wid2 bd901 (by decide) (by decide))) (cwV 1 hT (good_V tb_914 tb_911 tb_913 tb_16 tb_109) rfl rfl rfl (by decide +kernel) ⟨Nat.le_of_ble_eq_true rfl, Nat.le_of_ble_eq_true rfl⟩) (pool_preV (ci := 5) hK hE hS hA hw hW kd900 (by decide) rfl) rfl rfl hl.1 rfl (lv_room (Nat.le_of_ble_eq_true rfl)) dX5_cond_2 ⟨Nat.le_of_ble_eq_true rfl, Nat.le_of_ble_eq_true rfl⟩) (fun wl5 hp1 H locs hq4 hw hS => ?_)
  obtain ⟨ok2, F3⟩ := hq4
  have hw : PW G cy K ln Ls A hp1 H := hw
  refine lv_lstore_n (lv' := [(2, .long wl5), (0, .ref qa900), (1, .int zi901)]) hx hb dX5_cond_5 rfl hl (by decide) rfl (fun ls hl => ?_)
  refine lv_iconst (v := 0) hx hb dX5_cond_6 (by decide) ?_
  refine lv_istore (lv' := [(4, .int 0), (2, .long wl5), (0, .ref qa900), (1, .int zi901)]) hx hb dX5_cond_7 hl (by decide) rfl (fun ls hl => ?_)
  have jn325 : ∀ (hp322 : Nat → Nat → Value) (wl321 : Int64) (H : Heap) (locs : List Loc) (ls : Array Slot), Ok K hp322 → Fr [6002, 6003, 6004, 6005, 6006] K hp1 hp322 → lv_has ls 5 [(2, .long wl321)] → PW G cy K ln Ls A hp322 H → va_S A s.heap H locs → W p l e ({ frames := 13, cells := 0, slots := 0, locals := 314 } : Room) s m ([.ref qa900, .int zi901] : List Value).toArray below meth c H locs 0 0 Q (F0 m 40 ls []) := by
    intro hp322 wl321 H locs ls ok324 F323 hl hw hS
    refine lv_lload_n hx hb dX5_cond_40 rfl (lv_at hl 0 rfl) ?_
    rw [hQ]
    exact kz_l hx hb hr hlocks hS hp322 hw ⟨ok324, (Fr.tr (Fr.tr (Fr.rf) F3 (by decide)) F323 (by decide))⟩ (Nat.le_of_ble_eq_true rfl) (Nat.le_of_ble_eq_true rfl) dX5_cond_41
  have lp328 : ∀ (n326 : Nat) (hp259 : Nat → Nat → Value) (wl257 : Int64) (zi258 : Int32) (H : Heap) (locs : List Loc) (ls : Array Slot), 401 - zi258.toInt < (n326 : Int) → Ok K hp259 → Fr [6002, 6003, 6004, 6005, 6006] K hp1 hp259 → ((0 : Int) ≤ zi258.toInt ∧ zi258.toInt ≤ 401) → lv_has ls 5 [(0, .ref qa900), (1, .int zi901), (2, .long wl257), (4, .int zi258)] → PW G cy K ln Ls A hp259 H → va_S A s.heap H locs → W p l e ({ frames := 13, cells := 0, slots := 0, locals := 314 } : Room) s m ([.ref qa900, .int zi901] : List Value).toArray below meth c H locs 0 0 Q (F0 m 9 ls []) := by
    intro n326
    induction n326 with
    | zero =>
      intro hp259 wl257 zi258 H locs ls hm329 ok261 F260 bd262 hl hw hS
      exact absurd hm329 (by have := bd262; omega)
    | succ n326 ih327 =>
      intro hp259 wl257 zi258 H locs ls hm329 ok261 F260 bd262 hl hw hS
      refine lv_iload hx hb dX5_cond_9 (lv_at hl 3 rfl) ?_
      refine lv_sipush (v := 400) hx hb dX5_cond_11 (by decide) ?_
      refine lv_icmp_gt (tgt := 40) hx hb dX5_cond_14 (by decide) (fun cn330 => ?_) (fun cn330 => ?_)
      · skip
        have bd331 : (401 : Int) ≤ zi258.toInt ∧ zi258.toInt ≤ 401 := r_lt_y cn330 bc_400 bd262 (by decide) (by decide)
        exact jn325 hp259 wl257 _ _ ls ok261 (Fr.tr (Fr.rf) F260 (by decide)) (lv_sub hl [2] rfl) hw hS
      · skip
        have bd332 : (0 : Int) ≤ zi258.toInt ∧ zi258.toInt ≤ 400 := r_le_x (Int32.not_lt.mp cn330) bd262 bc_400 (by decide) (by decide)
        refine lv_aload_n hx hb dX5_cond_17 rfl (lv_at hl 0 rfl) ?_
        refine lv_bipush (v := 111) hx hb dX5_cond_18 (by decide) ?_
        refine kq_i hw hS hA (va_runV (As := [.int 111]) (rest := []) ⟨hx, hb, hml, hown, hT⟩ (cX5_accept_0 l G cy ev K ln Ls hW _ hp259 ok261 qa900 111 kd900) (cwV 1 hT (good_V tb_854 tb_851 tb_853 tb_8 tb_109) rfl rfl rfl (by decide +kernel) ⟨Nat.le_of_ble_eq_true rfl, Nat.le_of_ble_eq_true rfl⟩) (pool_preV (ci := 5) hK hE hS hA hw hW kd900 (by decide) rfl) rfl rfl hl.1 rfl (lv_room (Nat.le_of_ble_eq_true rfl)) dX5_cond_20 ⟨Nat.le_of_ble_eq_true rfl, Nat.le_of_ble_eq_true rfl⟩) (fun zi337 hp333 H locs hq336 hw hS => ?_)
        obtain ⟨ok334, F335, bd338, hc339, hc340⟩ := hq336
        have hw : PW G cy K ln Ls A hp333 H := hw
        rcases b01 bd338 with cn341 | cn341
        · skip
          subst cn341
          refine lv_if_eq (tgt := 40) hx hb dX5_cond_23 (by decide) (fun _ => ?_) (fun c => absurd (d_eq bc_0 bc_0) c)
          exact jn325 hp333 wl257 _ _ ls ok334 (Fr.tr (Fr.tr (Fr.rf) F260 (by decide)) F335 (by decide)) (lv_sub hl [2] rfl) hw hS
        · skip
          subst cn341
          obtain ⟨zi342, eq343, bd344⟩ := hc339 rfl
          obtain ⟨zi345, eq346, bd347⟩ := hc340 rfl
          refine lv_if_eq (tgt := 40) hx hb dX5_cond_23 (by decide) (fun c => absurd c (d_ne bc_1 bc_0 (by decide))) (fun _ => ?_)
          refine lv_lload_n hx hb dX5_cond_26 rfl (lv_at hl 2 rfl) ?_
          refine lv_aload_n hx hb dX5_cond_27 rfl (lv_at hl 0 rfl) ?_
          refine lv_iload_n hx hb dX5_cond_28 rfl (lv_at hl 1 rfl) ?_
          refine kq_l hw hS hA (va_runV (As := [.int zi901]) (rest := [.long wl257]) ⟨hx, hb, hml, hown, hT⟩ (cX5_all_3 l G cy ev K ln Ls hW _ hp333 ok334 qa900 zi901 kd900 (b_wid2 bd901 (by decide) (by decide))) (cwV 1 hT (good_V tb_914 tb_911 tb_913 tb_16 tb_109) rfl rfl rfl (by decide +kernel) ⟨Nat.le_of_ble_eq_true rfl, Nat.le_of_ble_eq_true rfl⟩) (pool_preV (ci := 5) hK hE hS hA hw hW kd900 (by decide) rfl) rfl rfl hl.1 rfl (lv_room (Nat.le_of_ble_eq_true rfl)) dX5_cond_29 ⟨Nat.le_of_ble_eq_true rfl, Nat.le_of_ble_eq_true rfl⟩) (fun wl352 hp348 H locs hq351 hw hS => ?_)
          obtain ⟨ok349, F350⟩ := hq351
          have hw : PW G cy K ln Ls A hp348 H := hw
          refine lv_lor hx hb dX5_cond_32 (lv_topl (fun wl353 _ => ?_))
          refine lv_lstore_n (lv' := [(2, .long wl353), (0, .ref qa900), (1, .int zi901), (4, .int zi258)]) hx hb dX5_cond_33 rfl hl (by decide) rfl (fun ls hl => ?_)
          obtain ⟨zi354, ea355⟩ : ∃ z : Int32, z = zi258 + 1 := ⟨_, rfl⟩
          have bd356 : (1 : Int) ≤ zi354.toInt ∧ zi354.toInt ≤ 401 := b_iadd ea355 bd332 bc_1 (by decide) (by decide) (by decide) (by decide)
          have qe357 : zi354.toInt = (zi258 : Int32).toInt + (1 : Int32).toInt := e_iadd ea355 bd332 bc_1 (by decide) (by decide)
          have qe358 : zi354.toInt = zi258.toInt + 1 := by have ha : (1 : Int32).toInt = 1 := (by decide); rw [ha] at qe357; exact qe357
          refine lv_iinc (v := zi354) (lv' := [(4, .int zi354), (2, .long wl353), (0, .ref qa900), (1, .int zi901)]) hx hb dX5_cond_34 hl (k := 3) rfl ea355.symm (by decide) rfl (fun ls hl => ?_)
          refine lv_goto (tgt := 9) hx hb dX5_cond_37 (by decide) ?_
          exact ih327 hp348 wl353 zi354 _ _ ls (by have := hm329; have := qe358; omega) ok349 (Fr.tr (Fr.tr (Fr.tr (Fr.rf) F260 (by decide)) F335 (by decide)) F350 (by decide)) (b_wid2 bd356 (by decide) (by decide)) (lv_sub hl [2, 3, 1, 0] rfl) hw hS
  exact lp328 _ hp1 wl5 0 _ _ ls (lp_in _) ok2 (Fr.rf) (b_wid2 bc_0 (by decide) (by decide)) (lv_sub hl [2, 3, 1, 0] rfl) hw hS

set_option maxRecDepth 100000 in
set_option maxHeartbeats 4000000 in
theorem cX5_literal_4 (l : Launch) (G : va_G) (cy : Nat → ClassId) (ev : Ew) (K ln : Nat → Nat) (Ls : List Nat) (hW : SW K ln Ls) (sz : Nat) (hp0 : Nat → Nat → Value) (ok0 : Ok K hp0) (qa900 : Nat) (zi901 : Int32) (kd900 : K qa900 = 6) (bd901 : ((2 : Int) ≤ zi901.toInt ∧ zi901.toInt ≤ 2)) : Met l yX5_literal (WS yX5_literal cX5_literal 6 (some .long)) { frames := 14, cells := 0, slots := 0, locals := 338 } (PB2 [.ref qa900, .int zi901] sz G cy ev (va_pl Ls (cellOf cy K ln hp0))) (QBl (S := (Nat → Nat → Value)) (fun (r : Int64) (u : (Nat → Nat → Value)) => Ok K u ∧ Fr [6002, 6003, 6004, 6005, 6006] K hp0 u) G (fun u => va_pl Ls (cellOf cy K ln u)) (va_A (va_pl Ls (cellOf cy K ln hp0)) sz)) 0 0 (va_A (va_pl Ls (cellOf cy K ln hp0)) sz) := by
  refine met_of2 (y := yX5_literal) (L := 6) (av := [.ref qa900, .int zi901]) (Qc := fun A => QBl (S := (Nat → Nat → Value)) (fun (r : Int64) (u : (Nat → Nat → Value)) => Ok K u ∧ Fr [6002, 6003, 6004, 6005, 6006] K hp0 u) G (fun u => va_pl Ls (cellOf cy K ln u)) A) (plainFor_of_name (by decide)) (Nat.le_of_ble_eq_true rfl) ?_
  intro p e s m below meth c hsz hx hb hr hml hown hT hlocks hin hK A hA hE hw hS ls hl
  have hw : PW G cy K ln Ls A hp0 s.heap := hw
  have hown : s.vm.findClass "LieClock$Parser" = some m.cls := hown
  have hl : lv_has ls 6 [(0, .ref qa900), (1, .int zi901)] := hl
  obtain ⟨Q, hQ⟩ : ∃ Q : State → Prop, Q = MQ below (QBl (S := (Nat → Nat → Value)) (fun (r : Int64) (u : (Nat → Nat → Value)) => Ok K u ∧ Fr [6002, 6003, 6004, 6005, 6006] K hp0 u) G (fun u => va_pl Ls (cellOf cy K ln u)) A) ([.ref qa900, .int zi901] : List Value).toArray s 0 0 A := ⟨_, rfl⟩
  rw [← hQ]
  refine lv_iconst (v := 0) hx hb dX5_literal_0 (by decide) ?_
  refine lv_istore_n (lv' := [(2, .int 0), (0, .ref qa900), (1, .int zi901)]) hx hb dX5_literal_1 rfl hl (by decide) rfl (fun ls hl => ?_)
  refine lv_iconst (v := 0) hx hb dX5_literal_2 (by decide) ?_
  refine lv_istore_n (lv' := [(3, .int 0), (2, .int 0), (0, .ref qa900), (1, .int zi901)]) hx hb dX5_literal_3 rfl hl (by decide) rfl (fun ls hl => ?_)
  have jn341 : ∀ (hp337 : Nat → Nat → Value) (zi336 : Int32) (H : Heap) (locs : List Loc) (ls : Array Slot), Ok K hp337 → Fr [6002, 6003, 6004] K hp0 hp337 → ((0 : Int) ≤ zi336.toInt ∧ zi336.toInt ≤ 1) → lv_has ls 6 [(0, .ref qa900), (1, .int zi901), (2, .int zi336)] → PW G cy K ln Ls A hp337 H → va_S A s.heap H locs → W p l e ({ frames := 14, cells := 0, slots := 0, locals := 338 } : Room) s m ([.ref qa900, .int zi901] : List Value).toArray below meth c H locs 0 0 Q (F0 m 36 ls []) := by
    intro hp337 zi336 H locs ls ok339 F338 bd340 hl hw hS
    refine lv_lconst (v := 0) hx hb dX5_literal_36 (by decide) ?_
    refine lv_lstore_n (lv' := [(3, .long 0), (0, .ref qa900), (1, .int zi901), (2, .int zi336)]) hx hb dX5_literal_37 rfl hl (by decide) rfl (fun ls hl => ?_)
    refine lv_aload_n hx hb dX5_literal_38 rfl (lv_at hl 1 rfl) ?_
    obtain ⟨zi343, eq342⟩ := rd_6003 ok339 kd900
    refine p_get (ci := 5) (v := .int zi343) (C := RX5) (T := TX5) (N := 7) hx hb hT iw_X5 hown hK hw hW kd900 (by decide) rfl rfl 3 (by decide) eq342 (hT _ tb_374) (fun _ h9 => h9) dX5_literal_39 ?_
    refine lv_bipush (v := 40) hx hb dX5_literal_42 (by decide) ?_
    have jn424 : ∀ (hp421 : Nat → Nat → Value) (wl420 : Int64) (H : Heap) (locs : List Loc) (ls : Array Slot), Ok K hp421 → Fr [6002, 6003, 6004, 6005, 6006] K hp337 hp421 → lv_has ls 6 [(2, .int zi336), (3, .long wl420)] → PW G cy K ln Ls A hp421 H → va_S A s.heap H locs → W p l e ({ frames := 14, cells := 0, slots := 0, locals := 338 } : Room) s m ([.ref qa900, .int zi901] : List Value).toArray below meth c H locs 0 0 Q (F0 m 113 ls []) := by
      intro hp421 wl420 H locs ls ok423 F422 hl hw hS
      refine lv_iload_n hx hb dX5_literal_113 rfl (lv_at hl 0 rfl) ?_
      refine lv_if_eq (tgt := 125) hx hb dX5_literal_114 (by decide) (fun cn425 => ?_) (fun cn425 => ?_)
      · skip
        have bd426 : (0 : Int) ≤ zi336.toInt ∧ zi336.toInt ≤ 0 := r_eq_x cn425 bd340 bc_0 (by decide) (by decide)
        refine lv_lload_n hx hb dX5_literal_125 rfl (lv_at hl 1 rfl) ?_
        rw [hQ]
        exact kz_l hx hb hr hlocks hS hp421 hw ⟨ok423, (Fr.tr (Fr.tr (Fr.rf) F338 (by decide)) F422 (by decide))⟩ (Nat.le_of_ble_eq_true rfl) (Nat.le_of_ble_eq_true rfl) dX5_literal_126
      · skip
        have bd427 : (1 : Int) ≤ zi336.toInt ∧ zi336.toInt ≤ 1 := r_ne_lo cn425 bd340 (toi bc_0) (by decide) (by decide)
        refine lv_lload_n hx hb dX5_literal_117 rfl (lv_at hl 1 rfl) ?_
        refine lv_ldc2 (v := (-1)) hx hb hown (hT _ tb_925) dX5_literal_118 ?_
        refine lv_lxor hx hb dX5_literal_121 (lv_topl (fun wl428 _ => ?_))
        refine lv_goto (tgt := 126) hx hb dX5_literal_122 (by decide) ?_
        rw [hQ]
        exact kz_l hx hb hr hlocks hS hp421 hw ⟨ok423, (Fr.tr (Fr.tr (Fr.rf) F338 (by decide)) F422 (by decide))⟩ (Nat.le_of_ble_eq_true rfl) (Nat.le_of_ble_eq_true rfl) dX5_literal_126
    refine lv_icmp_ne (tgt := 72) hx hb dX5_literal_44 (by decide) (fun cn344 => ?_) (fun cn344 => ?_)
    · skip
      refine lv_aload_n hx hb dX5_literal_72 rfl (lv_at hl 1 rfl) ?_
      obtain ⟨qa430, eq429, kd431⟩ := rd_6001 ok339 kd900
      refine p_get (ci := 5) (v := .ref qa430) (C := RX5) (T := TX5) (N := 7) hx hb hT iw_X5 hown hK hw hW kd900 (by decide) rfl rfl 1 (by decide) eq429 (hT _ tb_372) (fun _ h9 => h9) dX5_literal_73 ?_
      refine lv_aload_n hx hb dX5_literal_76 rfl (lv_at hl 1 rfl) ?_
      refine lv_iconst (v := 2) hx hb dX5_literal_77 (by decide) ?_
      refine kq_l hw hS hA (va_runV (As := [.int 2]) (rest := [.ref qa430]) ⟨hx, hb, hml, hown, hT⟩ (cX5_take_0 l G cy ev K ln Ls hW _ hp337 ok339 qa900 2 kd900) (cwV 1 hT (good_V tb_862 tb_859 tb_861 tb_10 tb_109) rfl rfl rfl (by decide +kernel) ⟨Nat.le_of_ble_eq_true rfl, Nat.le_of_ble_eq_true rfl⟩) (pool_preV (ci := 5) hK hE hS hA hw hW kd900 (by decide) rfl) rfl rfl hl.1 rfl (lv_room (Nat.le_of_ble_eq_true rfl)) dX5_literal_78 ⟨Nat.le_of_ble_eq_true rfl, Nat.le_of_ble_eq_true rfl⟩) (fun wl436 hp432 H locs hq435 hw hS => ?_)
      obtain ⟨ok433, F434⟩ := hq435
      have hw : PW G cy K ln Ls A hp432 H := hw
      refine kq_i hw hS hA (va_runV (As := [.long wl436]) (rest := []) ⟨hx, hb, hml, hown, hT⟩ (cX10_factNamed_0 l G cy ev K ln Ls hW _ hp432 ok433 qa430 wl436 kd431) (cwV 1 hT (good_V tb_870 tb_923 tb_868 tb_869 tb_107) rfl rfl rfl (by decide +kernel) ⟨Nat.le_of_ble_eq_true rfl, Nat.le_of_ble_eq_true rfl⟩) (pool_preV (ci := 10) hK hE hS hA hw hW kd431 (by decide) rfl) rfl rfl hl.1 rfl (lv_room (Nat.le_of_ble_eq_true rfl)) dX5_literal_81 ⟨Nat.le_of_ble_eq_true rfl, Nat.le_of_ble_eq_true rfl⟩) (fun zi441 hp437 H locs hq440 hw hS => ?_)
      obtain ⟨ok438, F439, bd442⟩ := hq440
      obtain rfl : hp432 = hp437 := (Fr.nil F439).symm
      have hw : PW G cy K ln Ls A hp432 H := hw
      refine lv_istore (lv' := [(5, .int zi441), (3, .long 0), (0, .ref qa900), (1, .int zi901), (2, .int zi336)]) hx hb dX5_literal_84 hl (by decide) rfl (fun ls hl => ?_)
      refine lv_iload hx hb dX5_literal_86 (lv_at hl 0 rfl) ?_
      refine lv_if_lt (tgt := 108) hx hb dX5_literal_88 (by decide) (fun cn443 => ?_) (fun cn443 => ?_)
      · skip
        have bd444 : (-1 : Int) ≤ zi441.toInt ∧ zi441.toInt ≤ -1 := r_lt_x cn443 bd442 bc_0 (by decide) (by decide)
        refine lv_aload_n hx hb dX5_literal_108 rfl (lv_at hl 2 rfl) ?_
        refine lv_iconst (v := 4) hx hb dX5_literal_109 (by decide) ?_
        refine kq_v hw hS hA (va_runV (As := [.int 4]) (rest := []) ⟨hx, hb, hml, hown, hT⟩ (cX5_failSoftly_0 l G cy ev K ln Ls hW _ hp432 ok433 qa900 4 kd900) (cwV 1 hT (good_V tb_881 tb_878 tb_880 tb_11 tb_109) rfl rfl rfl (by decide +kernel) ⟨Nat.le_of_ble_eq_true rfl, Nat.le_of_ble_eq_true rfl⟩) (pool_preV (ci := 5) hK hE hS hA hw hW kd900 (by decide) rfl) rfl rfl hl.1 rfl (lv_room (Nat.le_of_ble_eq_true rfl)) dX5_literal_110 ⟨Nat.le_of_ble_eq_true rfl, Nat.le_of_ble_eq_true rfl⟩) (fun hp445 H locs hq448 hw hS => ?_)
        obtain ⟨ok446, F447⟩ := hq448
        have hw : PW G cy K ln Ls A hp445 H := hw
        exact jn424 hp445 0 _ _ ls ok446 (Fr.tr (Fr.tr (Fr.rf) F434 (by decide)) F447 (by decide)) (lv_sub hl [4, 1] rfl) hw hS
      · skip
        have bd450 : (0 : Int) ≤ zi441.toInt ∧ zi441.toInt ≤ 5 := r_le_y (Int32.not_lt.mp cn443) bc_0 bd442 (by decide) (by decide)
        refine lv_iload hx hb dX5_literal_91 (lv_at hl 0 rfl) ?_
        refine lv_bipush (v := 6) hx hb dX5_literal_93 (by decide) ?_
        refine lv_icmp_ge (tgt := 108) hx hb dX5_literal_95 (by decide) (fun c => absurd c (d_nle bc_6 bd450 (by decide))) (fun _ => ?_)
        refine va_getsN hx hb hE.2.1 hS hown (hK.fl nw_820) (fun _ h9 => h9) dX5_literal_98 ?_
        refine lv_iload hx hb dX5_literal_101 (lv_at hl 0 rfl) ?_
        obtain ⟨wl451, _⟩ : ∃ w : Int64, w = ev.2.2 (zi441 : Int32).toNatClampNeg := ⟨_, rfl⟩
        refine va_tl (v := .long (ev.2.2 (zi441 : Int32).toNatClampNeg)) hx hb hE.2.2 hS (vp_b bd450 (by decide) (by decide)) rfl dX5_literal_103 (lv_topl (fun wl451x _ => ?_))
        refine lv_lstore_n (lv' := [(3, .long wl451x), (5, .int zi441), (0, .ref qa900), (1, .int zi901), (2, .int zi336)]) hx hb dX5_literal_104 rfl hl (by decide) rfl (fun ls hl => ?_)
        refine lv_goto (tgt := 113) hx hb dX5_literal_105 (by decide) ?_
        exact jn424 hp432 wl451x _ _ ls ok433 (Fr.tr (Fr.rf) F434 (by decide)) (lv_sub hl [4, 0] rfl) hw hS
    · skip
      have bd452 : (40 : Int) ≤ zi343.toInt ∧ zi343.toInt ≤ 40 := r_eq_x cn344 (b_all zi343) bc_40 (by decide) (by decide)
      refine lv_aload_n hx hb dX5_literal_47 rfl (lv_at hl 1 rfl) ?_
      refine lv_iload_n hx hb dX5_literal_48 rfl (lv_at hl 2 rfl) ?_
      refine kq_i hw hS hA (va_runV (As := [.int zi901]) (rest := []) ⟨hx, hb, hml, hown, hT⟩ (cX5_enter_2 l G cy ev K ln Ls hW _ hp337 ok339 qa900 zi901 kd900 (b_wid2 bd901 (by decide) (by decide))) (cwV 1 hT (good_V tb_922 tb_919 tb_921 tb_18 tb_109) rfl rfl rfl (by decide +kernel) ⟨Nat.le_of_ble_eq_true rfl, Nat.le_of_ble_eq_true rfl⟩) (pool_preV (ci := 5) hK hE hS hA hw hW kd900 (by decide) rfl) rfl rfl hl.1 rfl (lv_room (Nat.le_of_ble_eq_true rfl)) dX5_literal_49 ⟨Nat.le_of_ble_eq_true rfl, Nat.le_of_ble_eq_true rfl⟩) (fun zi457 hp453 H locs hq456 hw hS => ?_)
      obtain ⟨ok454, F455, bd458, hc459, hc460⟩ := hq456
      have hw : PW G cy K ln Ls A hp453 H := hw
      have jn482 : ∀ (hp479 : Nat → Nat → Value) (wl478 : Int64) (H : Heap) (locs : List Loc) (ls : Array Slot), Ok K hp479 → Fr [6002, 6003, 6004, 6005, 6006] K hp453 hp479 → lv_has ls 6 [(0, .ref qa900), (2, .int zi336), (3, .long wl478)] → PW G cy K ln Ls A hp479 H → va_S A s.heap H locs → W p l e ({ frames := 14, cells := 0, slots := 0, locals := 338 } : Room) s m ([.ref qa900, .int zi901] : List Value).toArray below meth c H locs 0 0 Q (F0 m 63 ls []) := by
        intro hp479 wl478 H locs ls ok481 F480 hl hw hS
        refine lv_aload_n hx hb dX5_literal_63 rfl (lv_at hl 0 rfl) ?_
        refine lv_bipush (v := 41) hx hb dX5_literal_64 (by decide) ?_
        refine kq_v hw hS hA (va_runV (As := [.int 41]) (rest := []) ⟨hx, hb, hml, hown, hT⟩ (cX5_expect_0 l G cy ev K ln Ls hW _ hp479 ok481 qa900 41 kd900) (cwV 1 hT (good_V tb_889 tb_886 tb_888 tb_12 tb_109) rfl rfl rfl (by decide +kernel) ⟨Nat.le_of_ble_eq_true rfl, Nat.le_of_ble_eq_true rfl⟩) (pool_preV (ci := 5) hK hE hS hA hw hW kd900 (by decide) rfl) rfl rfl hl.1 rfl (lv_room (Nat.le_of_ble_eq_true rfl)) dX5_literal_66 ⟨Nat.le_of_ble_eq_true rfl, Nat.le_of_ble_eq_true rfl⟩) (fun hp483 H locs hq486 hw hS => ?_)
        obtain ⟨ok484, F485⟩ := hq486
        have hw : PW G cy K ln Ls A hp483 H := hw
        refine lv_goto (tgt := 113) hx hb dX5_literal_69 (by decide) ?_
        exact jn424 hp483 wl478 _ _ ls ok484 (Fr.tr (Fr.tr (Fr.tr (Fr.rf) F455 (by decide)) F480 (by decide)) F485 (by decide)) (lv_sub hl [1, 2] rfl) hw hS
      rcases b01 bd458 with cn461 | cn461
      · skip
        subst cn461
        refine lv_if_eq (tgt := 63) hx hb dX5_literal_52 (by decide) (fun _ => ?_) (fun c => absurd (d_eq bc_0 bc_0) c)
        exact jn482 hp453 0 _ _ ls ok454 (Fr.rf) (lv_sub hl [1, 3, 0] rfl) hw hS
      · skip
        subst cn461
        obtain ⟨zi488, eq489, bd490⟩ := hc459 rfl
        obtain ⟨zi491, eq492, bd493⟩ := hc460 rfl
        refine lv_if_eq (tgt := 63) hx hb dX5_literal_52 (by decide) (fun c => absurd c (d_ne bc_1 bc_0 (by decide))) (fun _ => ?_)
        refine lv_aload_n hx hb dX5_literal_55 rfl (lv_at hl 1 rfl) ?_
        refine lv_iload_n hx hb dX5_literal_56 rfl (lv_at hl 2 rfl) ?_
        refine lv_iconst (v := 1) hx hb dX5_literal_57 (by decide) ?_
        refine lv_iadd hx hb dX5_literal_58 (lv_topi (fun zi494 ea495 => ?_))
        have bd496 : (3 : Int) ≤ zi494.toInt ∧ zi494.toInt ≤ 3 := b_iadd ea495 bd901 bc_1 (by decide) (by decide) (by decide) (by decide)
        have qe497 : zi494.toInt = (zi901 : Int32).toInt + (1 : Int32).toInt := e_iadd ea495 bd901 bc_1 (by decide) (by decide)
        have qe498 : zi494.toInt = zi901.toInt + 1 := by have ha : (1 : Int32).toInt = 1 := (by decide); rw [ha] at qe497; exact qe497
        refine kq_l hw hS hA (va_runV (As := [.int zi494]) (rest := []) ⟨hx, hb, hml, hown, hT⟩ (cX5_cond_3 l G cy ev K ln Ls hW _ hp453 ok454 qa900 zi494 kd900 (b_wid2 bd496 (by decide) (by decide))) (cwV 1 hT (good_V tb_910 tb_907 tb_909 tb_15 tb_109) rfl rfl rfl (by decide +kernel) ⟨Nat.le_of_ble_eq_true rfl, Nat.le_of_ble_eq_true rfl⟩) (pool_preV (ci := 5) hK hE hS hA hw hW kd900 (by decide) rfl) rfl rfl hl.1 rfl (lv_room (Nat.le_of_ble_eq_true rfl)) dX5_literal_59 ⟨Nat.le_of_ble_eq_true rfl, Nat.le_of_ble_eq_true rfl⟩) (fun wl503 hp499 H locs hq502 hw hS => ?_)
        obtain ⟨ok500, F501⟩ := hq502
        have hw : PW G cy K ln Ls A hp499 H := hw
        refine lv_lstore_n (lv' := [(3, .long wl503), (0, .ref qa900), (1, .int zi901), (2, .int zi336)]) hx hb dX5_literal_62 rfl hl (by decide) rfl (fun ls hl => ?_)
        exact jn482 hp499 wl503 _ _ ls ok500 (Fr.tr (Fr.rf) F501 (by decide)) (lv_sub hl [1, 3, 0] rfl) hw hS
  have lp506 : ∀ (n504 : Nat) (hp269 : Nat → Nat → Value) (zi267 : Int32) (zi268 : Int32) (H : Heap) (locs : List Loc) (ls : Array Slot), 401 - zi268.toInt < (n504 : Int) → Ok K hp269 → Fr [6002, 6003, 6004] K hp0 hp269 → ((0 : Int) ≤ zi267.toInt ∧ zi267.toInt ≤ 1) → ((0 : Int) ≤ zi268.toInt ∧ zi268.toInt ≤ 401) → lv_has ls 6 [(0, .ref qa900), (1, .int zi901), (2, .int zi267), (3, .int zi268)] → PW G cy K ln Ls A hp269 H → va_S A s.heap H locs → W p l e ({ frames := 14, cells := 0, slots := 0, locals := 338 } : Room) s m ([.ref qa900, .int zi901] : List Value).toArray below meth c H locs 0 0 Q (F0 m 4 ls []) := by
    intro n504
    induction n504 with
    | zero =>
      intro hp269 zi267 zi268 H locs ls hm507 ok271 F270 bd272 bd273 hl hw hS
      exact absurd hm507 (by have := bd273; omega)
    | succ n504 ih505 =>
      intro hp269 zi267 zi268 H locs ls hm507 ok271 F270 bd272 bd273 hl hw hS
      refine lv_iload_n hx hb dX5_literal_4 rfl (lv_at hl 3 rfl) ?_
      refine lv_sipush (v := 400) hx hb dX5_literal_5 (by decide) ?_
      refine lv_icmp_gt (tgt := 36) hx hb dX5_literal_8 (by decide) (fun cn508 => ?_) (fun cn508 => ?_)
      · skip
        have bd509 : (401 : Int) ≤ zi268.toInt ∧ zi268.toInt ≤ 401 := r_lt_y cn508 bc_400 bd273 (by decide) (by decide)
        exact jn341 hp269 zi267 _ _ ls ok271 (Fr.tr (Fr.rf) F270 (by decide)) (b_wid2 bd272 (by decide) (by decide)) (lv_sub hl [0, 1, 2] rfl) hw hS
      · skip
        have bd510 : (0 : Int) ≤ zi268.toInt ∧ zi268.toInt ≤ 400 := r_le_x (Int32.not_lt.mp cn508) bd273 bc_400 (by decide) (by decide)
        refine lv_aload_n hx hb dX5_literal_11 rfl (lv_at hl 0 rfl) ?_
        refine lv_bipush (v := 113) hx hb dX5_literal_12 (by decide) ?_
        refine kq_i hw hS hA (va_runV (As := [.int 113]) (rest := []) ⟨hx, hb, hml, hown, hT⟩ (cX5_accept_0 l G cy ev K ln Ls hW _ hp269 ok271 qa900 113 kd900) (cwV 1 hT (good_V tb_854 tb_851 tb_853 tb_8 tb_109) rfl rfl rfl (by decide +kernel) ⟨Nat.le_of_ble_eq_true rfl, Nat.le_of_ble_eq_true rfl⟩) (pool_preV (ci := 5) hK hE hS hA hw hW kd900 (by decide) rfl) rfl rfl hl.1 rfl (lv_room (Nat.le_of_ble_eq_true rfl)) dX5_literal_14 ⟨Nat.le_of_ble_eq_true rfl, Nat.le_of_ble_eq_true rfl⟩) (fun zi515 hp511 H locs hq514 hw hS => ?_)
        obtain ⟨ok512, F513, bd516, hc517, hc518⟩ := hq514
        have hw : PW G cy K ln Ls A hp511 H := hw
        rcases b01 bd516 with cn519 | cn519
        · skip
          subst cn519
          refine lv_if_eq (tgt := 36) hx hb dX5_literal_17 (by decide) (fun _ => ?_) (fun c => absurd (d_eq bc_0 bc_0) c)
          exact jn341 hp511 zi267 _ _ ls ok512 (Fr.tr (Fr.tr (Fr.rf) F270 (by decide)) F513 (by decide)) (b_wid2 bd272 (by decide) (by decide)) (lv_sub hl [0, 1, 2] rfl) hw hS
        · skip
          subst cn519
          obtain ⟨zi520, eq521, bd522⟩ := hc517 rfl
          obtain ⟨zi523, eq524, bd525⟩ := hc518 rfl
          refine lv_if_eq (tgt := 36) hx hb dX5_literal_17 (by decide) (fun c => absurd c (d_ne bc_1 bc_0 (by decide))) (fun _ => ?_)
          refine lv_iload_n hx hb dX5_literal_20 rfl (lv_at hl 2 rfl) ?_
          have jn531 : ∀ (zi529 : Int32) (H : Heap) (locs : List Loc) (ls : Array Slot), ((0 : Int) ≤ zi529.toInt ∧ zi529.toInt ≤ 1) → lv_has ls 6 [(0, .ref qa900), (1, .int zi901), (3, .int zi268)] → PW G cy K ln Ls A hp511 H → va_S A s.heap H locs → W p l e ({ frames := 14, cells := 0, slots := 0, locals := 338 } : Room) s m ([.ref qa900, .int zi901] : List Value).toArray below meth c H locs 0 0 Q (F0 m 29 ls [.int zi529]) := by
            intro zi529 H locs ls bd530 hl hw hS
            refine lv_istore_n (lv' := [(2, .int zi529), (0, .ref qa900), (1, .int zi901), (3, .int zi268)]) hx hb dX5_literal_29 rfl hl (by decide) rfl (fun ls hl => ?_)
            obtain ⟨zi532, ea533⟩ : ∃ z : Int32, z = zi268 + 1 := ⟨_, rfl⟩
            have bd534 : (1 : Int) ≤ zi532.toInt ∧ zi532.toInt ≤ 401 := b_iadd ea533 bd510 bc_1 (by decide) (by decide) (by decide) (by decide)
            have qe535 : zi532.toInt = (zi268 : Int32).toInt + (1 : Int32).toInt := e_iadd ea533 bd510 bc_1 (by decide) (by decide)
            have qe536 : zi532.toInt = zi268.toInt + 1 := by have ha : (1 : Int32).toInt = 1 := (by decide); rw [ha] at qe535; exact qe535
            refine lv_iinc (v := zi532) (lv' := [(3, .int zi532), (2, .int zi529), (0, .ref qa900), (1, .int zi901)]) hx hb dX5_literal_30 hl (k := 3) rfl ea533.symm (by decide) rfl (fun ls hl => ?_)
            refine lv_goto (tgt := 4) hx hb dX5_literal_33 (by decide) ?_
            exact ih505 hp511 zi529 zi532 _ _ ls (by have := hm507; have := qe536; omega) ok512 (Fr.tr (Fr.tr (Fr.rf) F270 (by decide)) F513 (by decide)) (b_wid2 bd530 (by decide) (by decide)) (b_wid2 bd534 (by decide) (by decide)) (lv_sub hl [2, 3, 1, 0] rfl) hw hS
          refine lv_if_ne (tgt := 28) hx hb dX5_literal_21 (by decide) (fun cn526 => ?_) (fun cn526 => ?_)
          · skip
            have bd537 : (1 : Int) ≤ zi267.toInt ∧ zi267.toInt ≤ 1 := r_ne_lo cn526 bd272 (toi bc_0) (by decide) (by decide)
            refine lv_iconst (v := 0) hx hb dX5_literal_28 (by decide) ?_
            exact jn531 0 _ _ ls (b_wid2 bc_0 (by decide) (by decide)) (lv_sub hl [0, 1, 3] rfl) hw hS
          · skip
            have bd538 : (0 : Int) ≤ zi267.toInt ∧ zi267.toInt ≤ 0 := r_eq_x cn526 bd272 bc_0 (by decide) (by decide)
            refine lv_iconst (v := 1) hx hb dX5_literal_24 (by decide) ?_
            refine lv_goto (tgt := 29) hx hb dX5_literal_25 (by decide) ?_
            exact jn531 1 _ _ ls (b_wid2 bc_1 (by decide) (by decide)) (lv_sub hl [0, 1, 3] rfl) hw hS
  exact lp506 _ hp0 0 0 _ _ ls (lp_in _) ok0 (Fr.rf) (b_wid2 bc_0 (by decide) (by decide)) (b_wid2 bc_0 (by decide) (by decide)) (lv_sub hl [2, 3, 1, 0] rfl) hw hS
