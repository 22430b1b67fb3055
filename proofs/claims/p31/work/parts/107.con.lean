set_option maxRecDepth 100000 in
set_option maxHeartbeats 4000000 in
theorem cX5_all_4 (l : Launch) (G : va_G) (cy : Nat → ClassId) (ev : Ew) (K ln : Nat → Nat) (Ls : List Nat) (hW : SW K ln Ls) (sz : Nat) (hp0 : Nat → Nat → Value) (ok0 : Ok K hp0) (qa900 : Nat) (zi901 : Int32) (kd900 : K qa900 = 6) (bd901 : ((2 : Int) ≤ zi901.toInt ∧ zi901.toInt ≤ 2)) : Met l yX5_all (WS yX5_all cX5_all 5 (some .long)) { frames := 15, cells := 0, slots := 0, locals := 363 } (PB2 [.ref qa900, .int zi901] sz G cy ev (va_pl Ls (cellOf cy K ln hp0))) (QBl (S := (Nat → Nat → Value)) (fun (r : Int64) (u : (Nat → Nat → Value)) => Ok K u ∧ Fr [6002, 6003, 6004, 6005, 6006] K hp0 u) G (fun u => va_pl Ls (cellOf cy K ln u)) (va_A (va_pl Ls (cellOf cy K ln hp0)) sz)) 0 0 (va_A (va_pl Ls (cellOf cy K ln hp0)) sz) := by
  refine met_of2 (y := yX5_all) (L := 5) (av := [.ref qa900, .int zi901]) (Qc := fun A => QBl (S := (Nat → Nat → Value)) (fun (r : Int64) (u : (Nat → Nat → Value)) => Ok K u ∧ Fr [6002, 6003, 6004, 6005, 6006] K hp0 u) G (fun u => va_pl Ls (cellOf cy K ln u)) A) (plainFor_of_name (by decide)) (Nat.le_of_ble_eq_true rfl) ?_
  intro p e s m below meth c hsz hx hb hr hml hown hT hlocks hin hK A hA hE hw hS ls hl
  have hw : PW G cy K ln Ls A hp0 s.heap := hw
  have hown : s.vm.findClass "LieClock$Parser" = some m.cls := hown
  have hl : lv_has ls 5 [(0, .ref qa900), (1, .int zi901)] := hl
  obtain ⟨Q, hQ⟩ : ∃ Q : State → Prop, Q = MQ below (QBl (S := (Nat → Nat → Value)) (fun (r : Int64) (u : (Nat → Nat → Value)) => Ok K u ∧ Fr [6002, 6003, 6004, 6005, 6006] K hp0 u) G (fun u => va_pl Ls (cellOf cy K ln u)) A) ([.ref qa900, .int zi901] : List Value).toArray s 0 0 A := ⟨_, rfl⟩
  rw [← hQ]
  refine lv_aload_n hx hb dX5_all_0 rfl (lv_at hl 0 rfl) ?_
  refine lv_iload_n hx hb dX5_all_1 rfl (lv_at hl 1 rfl) ?_
  refine kq_l hw hS hA (va_runV (As := [.int zi901]) (rest := []) ⟨hx, hb, hml, hown, hT⟩ (cX5_literal_4 l G cy ev K ln Ls hW _ hp0 ok0 qa900 zi901 kd900 (b_wid2 bd901 (by decide) (by decide))) (cwV 1 hT (good_V tb_918 tb_915 tb_917 tb_17 tb_109) rfl rfl rfl (by decide +kernel) ⟨Nat.le_of_ble_eq_true rfl, Nat.le_of_ble_eq_true rfl⟩) (pool_preV (ci := 5) hK hE hS hA hw hW kd900 (by decide) rfl) rfl rfl hl.1 rfl (lv_room (Nat.le_of_ble_eq_true rfl)) dX5_all_2 ⟨Nat.le_of_ble_eq_true rfl, Nat.le_of_ble_eq_true rfl⟩) (fun wl5 hp1 H locs hq4 hw hS => ?_)
  obtain ⟨ok2, F3⟩ := hq4
  have hw : PW G cy K ln Ls A hp1 H := hw
  refine lv_lstore_n (lv' := [(2, .long wl5), (0, .ref qa900), (1, .int zi901)]) hx hb dX5_all_5 rfl hl (by decide) rfl (fun ls hl => ?_)
  refine lv_iconst (v := 0) hx hb dX5_all_6 (by decide) ?_
  refine lv_istore (lv' := [(4, .int 0), (2, .long wl5), (0, .ref qa900), (1, .int zi901)]) hx hb dX5_all_7 hl (by decide) rfl (fun ls hl => ?_)
  have jn229 : ∀ (hp226 : Nat → Nat → Value) (wl225 : Int64) (H : Heap) (locs : List Loc) (ls : Array Slot), Ok K hp226 → Fr [6002, 6003, 6004, 6005, 6006] K hp1 hp226 → lv_has ls 5 [(2, .long wl225)] → PW G cy K ln Ls A hp226 H → va_S A s.heap H locs → W p l e ({ frames := 15, cells := 0, slots := 0, locals := 363 } : Room) s m ([.ref qa900, .int zi901] : List Value).toArray below meth c H locs 0 0 Q (F0 m 40 ls []) := by
    intro hp226 wl225 H locs ls ok228 F227 hl hw hS
    refine lv_lload_n hx hb dX5_all_40 rfl (lv_at hl 0 rfl) ?_
    rw [hQ]
    exact kz_l hx hb hr hlocks hS hp226 hw ⟨ok228, (Fr.tr (Fr.tr (Fr.rf) F3 (by decide)) F227 (by decide))⟩ (Nat.le_of_ble_eq_true rfl) (Nat.le_of_ble_eq_true rfl) dX5_all_41
  have lp232 : ∀ (n230 : Nat) (hp163 : Nat → Nat → Value) (wl161 : Int64) (zi162 : Int32) (H : Heap) (locs : List Loc) (ls : Array Slot), 401 - zi162.toInt < (n230 : Int) → Ok K hp163 → Fr [6002, 6003, 6004, 6005, 6006] K hp1 hp163 → ((0 : Int) ≤ zi162.toInt ∧ zi162.toInt ≤ 401) → lv_has ls 5 [(0, .ref qa900), (1, .int zi901), (2, .long wl161), (4, .int zi162)] → PW G cy K ln Ls A hp163 H → va_S A s.heap H locs → W p l e ({ frames := 15, cells := 0, slots := 0, locals := 363 } : Room) s m ([.ref qa900, .int zi901] : List Value).toArray below meth c H locs 0 0 Q (F0 m 9 ls []) := by
    intro n230
    induction n230 with
    | zero =>
      intro hp163 wl161 zi162 H locs ls hm233 ok165 F164 bd166 hl hw hS
      exact absurd hm233 (by have := bd166; omega)
    | succ n230 ih231 =>
      intro hp163 wl161 zi162 H locs ls hm233 ok165 F164 bd166 hl hw hS
      refine lv_iload hx hb dX5_all_9 (lv_at hl 3 rfl) ?_
      refine lv_sipush (v := 400) hx hb dX5_all_11 (by decide) ?_
      refine lv_icmp_gt (tgt := 40) hx hb dX5_all_14 (by decide) (fun cn234 => ?_) (fun cn234 => ?_)
      · skip
        have bd235 : (401 : Int) ≤ zi162.toInt ∧ zi162.toInt ≤ 401 := r_lt_y cn234 bc_400 bd166 (by decide) (by decide)
        exact jn229 hp163 wl161 _ _ ls ok165 (Fr.tr (Fr.rf) F164 (by decide)) (lv_sub hl [2] rfl) hw hS
      · skip
        have bd236 : (0 : Int) ≤ zi162.toInt ∧ zi162.toInt ≤ 400 := r_le_x (Int32.not_lt.mp cn234) bd166 bc_400 (by decide) (by decide)
        refine lv_aload_n hx hb dX5_all_17 rfl (lv_at hl 0 rfl) ?_
        refine lv_bipush (v := 112) hx hb dX5_all_18 (by decide) ?_
        refine kq_i hw hS hA (va_runV (As := [.int 112]) (rest := []) ⟨hx, hb, hml, hown, hT⟩ (cX5_accept_0 l G cy ev K ln Ls hW _ hp163 ok165 qa900 112 kd900) (cwV 1 hT (good_V tb_854 tb_851 tb_853 tb_8 tb_109) rfl rfl rfl (by decide +kernel) ⟨Nat.le_of_ble_eq_true rfl, Nat.le_of_ble_eq_true rfl⟩) (pool_preV (ci := 5) hK hE hS hA hw hW kd900 (by decide) rfl) rfl rfl hl.1 rfl (lv_room (Nat.le_of_ble_eq_true rfl)) dX5_all_20 ⟨Nat.le_of_ble_eq_true rfl, Nat.le_of_ble_eq_true rfl⟩) (fun zi241 hp237 H locs hq240 hw hS => ?_)
        obtain ⟨ok238, F239, bd242, hc243, hc244⟩ := hq240
        have hw : PW G cy K ln Ls A hp237 H := hw
        rcases b01 bd242 with cn245 | cn245
        · skip
          subst cn245
          refine lv_if_eq (tgt := 40) hx hb dX5_all_23 (by decide) (fun _ => ?_) (fun c => absurd (d_eq bc_0 bc_0) c)
          exact jn229 hp237 wl161 _ _ ls ok238 (Fr.tr (Fr.tr (Fr.rf) F164 (by decide)) F239 (by decide)) (lv_sub hl [2] rfl) hw hS
        · skip
          subst cn245
          obtain ⟨zi246, eq247, bd248⟩ := hc243 rfl
          obtain ⟨zi249, eq250, bd251⟩ := hc244 rfl
          refine lv_if_eq (tgt := 40) hx hb dX5_all_23 (by decide) (fun c => absurd c (d_ne bc_1 bc_0 (by decide))) (fun _ => ?_)
          refine lv_lload_n hx hb dX5_all_26 rfl (lv_at hl 2 rfl) ?_
          refine lv_aload_n hx hb dX5_all_27 rfl (lv_at hl 0 rfl) ?_
          refine lv_iload_n hx hb dX5_all_28 rfl (lv_at hl 1 rfl) ?_
          refine kq_l hw hS hA (va_runV (As := [.int zi901]) (rest := [.long wl161]) ⟨hx, hb, hml, hown, hT⟩ (cX5_literal_4 l G cy ev K ln Ls hW _ hp237 ok238 qa900 zi901 kd900 (b_wid2 bd901 (by decide) (by decide))) (cwV 1 hT (good_V tb_918 tb_915 tb_917 tb_17 tb_109) rfl rfl rfl (by decide +kernel) ⟨Nat.le_of_ble_eq_true rfl, Nat.le_of_ble_eq_true rfl⟩) (pool_preV (ci := 5) hK hE hS hA hw hW kd900 (by decide) rfl) rfl rfl hl.1 rfl (lv_room (Nat.le_of_ble_eq_true rfl)) dX5_all_29 ⟨Nat.le_of_ble_eq_true rfl, Nat.le_of_ble_eq_true rfl⟩) (fun wl256 hp252 H locs hq255 hw hS => ?_)
          obtain ⟨ok253, F254⟩ := hq255
          have hw : PW G cy K ln Ls A hp252 H := hw
          refine lv_land hx hb dX5_all_32 (lv_topl (fun wl257 _ => ?_))
          refine lv_lstore_n (lv' := [(2, .long wl257), (0, .ref qa900), (1, .int zi901), (4, .int zi162)]) hx hb dX5_all_33 rfl hl (by decide) rfl (fun ls hl => ?_)
          obtain ⟨zi258, ea259⟩ : ∃ z : Int32, z = zi162 + 1 := ⟨_, rfl⟩
          have bd260 : (1 : Int) ≤ zi258.toInt ∧ zi258.toInt ≤ 401 := b_iadd ea259 bd236 bc_1 (by decide) (by decide) (by decide) (by decide)
          have qe261 : zi258.toInt = (zi162 : Int32).toInt + (1 : Int32).toInt := e_iadd ea259 bd236 bc_1 (by decide) (by decide)
          have qe262 : zi258.toInt = zi162.toInt + 1 := by have ha : (1 : Int32).toInt = 1 := (by decide); rw [ha] at qe261; exact qe261
          refine lv_iinc (v := zi258) (lv' := [(4, .int zi258), (2, .long wl257), (0, .ref qa900), (1, .int zi901)]) hx hb dX5_all_34 hl (k := 3) rfl ea259.symm (by decide) rfl (fun ls hl => ?_)
          refine lv_goto (tgt := 9) hx hb dX5_all_37 (by decide) ?_
          exact ih231 hp252 wl257 zi258 _ _ ls (by have := hm233; have := qe262; omega) ok253 (Fr.tr (Fr.tr (Fr.tr (Fr.rf) F164 (by decide)) F239 (by decide)) F254 (by decide)) (b_wid2 bd260 (by decide) (by decide)) (lv_sub hl [2, 3, 1, 0] rfl) hw hS
  exact lp232 _ hp1 wl5 0 _ _ ls (lp_in _) ok2 (Fr.rf) (b_wid2 bc_0 (by decide) (by decide)) (lv_sub hl [2, 3, 1, 0] rfl) hw hS

set_option maxRecDepth 100000 in
set_option maxHeartbeats 4000000 in
theorem cX5_cond_4 (l : Launch) (G : va_G) (cy : Nat → ClassId) (ev : Ew) (K ln : Nat → Nat) (Ls : List Nat) (hW : SW K ln Ls) (sz : Nat) (hp0 : Nat → Nat → Value) (ok0 : Ok K hp0) (qa900 : Nat) (zi901 : Int32) (kd900 : K qa900 = 6) (bd901 : ((2 : Int) ≤ zi901.toInt ∧ zi901.toInt ≤ 2)) : Met l yX5_cond (WS yX5_cond cX5_cond 5 (some .long)) { frames := 16, cells := 0, slots := 0, locals := 387 } (PB2 [.ref qa900, .int zi901] sz G cy ev (va_pl Ls (cellOf cy K ln hp0))) (QBl (S := (Nat → Nat → Value)) (fun (r : Int64) (u : (Nat → Nat → Value)) => Ok K u ∧ Fr [6002, 6003, 6004, 6005, 6006] K hp0 u) G (fun u => va_pl Ls (cellOf cy K ln u)) (va_A (va_pl Ls (cellOf cy K ln hp0)) sz)) 0 0 (va_A (va_pl Ls (cellOf cy K ln hp0)) sz) := by
  refine met_of2 (y := yX5_cond) (L := 5) (av := [.ref qa900, .int zi901]) (Qc := fun A => QBl (S := (Nat → Nat → Value)) (fun (r : Int64) (u : (Nat → Nat → Value)) => Ok K u ∧ Fr [6002, 6003, 6004, 6005, 6006] K hp0 u) G (fun u => va_pl Ls (cellOf cy K ln u)) A) (plainFor_of_name (by decide)) (Nat.le_of_ble_eq_true rfl) ?_
  intro p e s m below meth c hsz hx hb hr hml hown hT hlocks hin hK A hA hE hw hS ls hl
  have hw : PW G cy K ln Ls A hp0 s.heap := hw
  have hown : s.vm.findClass "LieClock$Parser" = some m.cls := hown
  have hl : lv_has ls 5 [(0, .ref qa900), (1, .int zi901)] := hl
  obtain ⟨Q, hQ⟩ : ∃ Q : State → Prop, Q = MQ below (QBl (S := (Nat → Nat → Value)) (fun (r : Int64) (u : (Nat → Nat → Value)) => Ok K u ∧ Fr [6002, 6003, 6004, 6005, 6006] K hp0 u) G (fun u => va_pl Ls (cellOf cy K ln u)) A) ([.ref qa900, .int zi901] : List Value).toArray s 0 0 A := ⟨_, rfl⟩
  rw [← hQ]
  refine lv_aload_n hx hb dX5_cond_0 rfl (lv_at hl 0 rfl) ?_
  refine lv_iload_n hx hb dX5_cond_1 rfl (lv_at hl 1 rfl) ?_
  refine kq_l hw hS hA (va_runV (As := [.int zi901]) (rest := []) ⟨hx, hb, hml, hown, hT⟩ (cX5_all_4 l G cy ev K ln Ls hW _ hp0 ok0 qa900 zi901 kd900 (b_wid2 bd901 (by decide) (by decide))) (cwV 1 hT (good_V tb_914 tb_911 tb_913 tb_16 tb_109) rfl rfl rfl (by decide +kernel) ⟨Nat.le_of_ble_eq_true rfl, Nat.le_of_ble_eq_true rfl⟩) (pool_preV (ci := 5) hK hE hS hA hw hW kd900 (by decide) rfl) rfl rfl hl.1 rfl (lv_room (Nat.le_of_ble_eq_true rfl)) dX5_cond_2 ⟨Nat.le_of_ble_eq_true rfl, Nat.le_of_ble_eq_true rfl⟩) (fun wl5 hp1 H locs hq4 hw hS => ?_)
  obtain ⟨ok2, F3⟩ := hq4
  have hw : PW G cy K ln Ls A hp1 H := hw
  refine lv_lstore_n (lv' := [(2, .long wl5), (0, .ref qa900), (1, .int zi901)]) hx hb dX5_cond_5 rfl hl (by decide) rfl (fun ls hl => ?_)
  refine lv_iconst (v := 0) hx hb dX5_cond_6 (by decide) ?_
  refine lv_istore (lv' := [(4, .int 0), (2, .long wl5), (0, .ref qa900), (1, .int zi901)]) hx hb dX5_cond_7 hl (by decide) rfl (fun ls hl => ?_)
  have jn229 : ∀ (hp226 : Nat → Nat → Value) (wl225 : Int64) (H : Heap) (locs : List Loc) (ls : Array Slot), Ok K hp226 → Fr [6002, 6003, 6004, 6005, 6006] K hp1 hp226 → lv_has ls 5 [(2, .long wl225)] → PW G cy K ln Ls A hp226 H → va_S A s.heap H locs → W p l e ({ frames := 16, cells := 0, slots := 0, locals := 387 } : Room) s m ([.ref qa900, .int zi901] : List Value).toArray below meth c H locs 0 0 Q (F0 m 40 ls []) := by
    intro hp226 wl225 H locs ls ok228 F227 hl hw hS
    refine lv_lload_n hx hb dX5_cond_40 rfl (lv_at hl 0 rfl) ?_
    rw [hQ]
    exact kz_l hx hb hr hlocks hS hp226 hw ⟨ok228, (Fr.tr (Fr.tr (Fr.rf) F3 (by decide)) F227 (by decide))⟩ (Nat.le_of_ble_eq_true rfl) (Nat.le_of_ble_eq_true rfl) dX5_cond_41
  have lp232 : ∀ (n230 : Nat) (hp163 : Nat → Nat → Value) (wl161 : Int64) (zi162 : Int32) (H : Heap) (locs : List Loc) (ls : Array Slot), 401 - zi162.toInt < (n230 : Int) → Ok K hp163 → Fr [6002, 6003, 6004, 6005, 6006] K hp1 hp163 → ((0 : Int) ≤ zi162.toInt ∧ zi162.toInt ≤ 401) → lv_has ls 5 [(0, .ref qa900), (1, .int zi901), (2, .long wl161), (4, .int zi162)] → PW G cy K ln Ls A hp163 H → va_S A s.heap H locs → W p l e ({ frames := 16, cells := 0, slots := 0, locals := 387 } : Room) s m ([.ref qa900, .int zi901] : List Value).toArray below meth c H locs 0 0 Q (F0 m 9 ls []) := by
    intro n230
    induction n230 with
    | zero =>
      intro hp163 wl161 zi162 H locs ls hm233 ok165 F164 bd166 hl hw hS
      exact absurd hm233 (by have := bd166; omega)
    | succ n230 ih231 =>
      intro hp163 wl161 zi162 H locs ls hm233 ok165 F164 bd166 hl hw hS
      refine lv_iload hx hb dX5_cond_9 (lv_at hl 3 rfl) ?_
      refine lv_sipush (v := 400) hx hb dX5_cond_11 (by decide) ?_
      refine lv_icmp_gt (tgt := 40) hx hb dX5_cond_14 (by decide) (fun cn234 => ?_) (fun cn234 => ?_)
      · skip
        have bd235 : (401 : Int) ≤ zi162.toInt ∧ zi162.toInt ≤ 401 := r_lt_y cn234 bc_400 bd166 (by decide) (by decide)
        exact jn229 hp163 wl161 _ _ ls ok165 (Fr.tr (Fr.rf) F164 (by decide)) (lv_sub hl [2] rfl) hw hS
      · skip
        have bd236 : (0 : Int) ≤ zi162.toInt ∧ zi162.toInt ≤ 400 := r_le_x (Int32.not_lt.mp cn234) bd166 bc_400 (by decide) (by decide)
        refine lv_aload_n hx hb dX5_cond_17 rfl (lv_at hl 0 rfl) ?_
        refine lv_bipush (v := 111) hx hb dX5_cond_18 (by decide) ?_
        refine kq_i hw hS hA (va_runV (As := [.int 111]) (rest := []) ⟨hx, hb, hml, hown, hT⟩ (cX5_accept_0 l G cy ev K ln Ls hW _ hp163 ok165 qa900 111 kd900) (cwV 1 hT (good_V tb_854 tb_851 tb_853 tb_8 tb_109) rfl rfl rfl (by decide +kernel) ⟨Nat.le_of_ble_eq_true rfl, Nat.le_of_ble_eq_true rfl⟩) (pool_preV (ci := 5) hK hE hS hA hw hW kd900 (by decide) rfl) rfl rfl hl.1 rfl (lv_room (Nat.le_of_ble_eq_true rfl)) dX5_cond_20 ⟨Nat.le_of_ble_eq_true rfl, Nat.le_of_ble_eq_true rfl⟩) (fun zi241 hp237 H locs hq240 hw hS => ?_)
        obtain ⟨ok238, F239, bd242, hc243, hc244⟩ := hq240
        have hw : PW G cy K ln Ls A hp237 H := hw
        rcases b01 bd242 with cn245 | cn245
        · skip
          subst cn245
          refine lv_if_eq (tgt := 40) hx hb dX5_cond_23 (by decide) (fun _ => ?_) (fun c => absurd (d_eq bc_0 bc_0) c)
          exact jn229 hp237 wl161 _ _ ls ok238 (Fr.tr (Fr.tr (Fr.rf) F164 (by decide)) F239 (by decide)) (lv_sub hl [2] rfl) hw hS
        · skip
          subst cn245
          obtain ⟨zi246, eq247, bd248⟩ := hc243 rfl
          obtain ⟨zi249, eq250, bd251⟩ := hc244 rfl
          refine lv_if_eq (tgt := 40) hx hb dX5_cond_23 (by decide) (fun c => absurd c (d_ne bc_1 bc_0 (by decide))) (fun _ => ?_)
          refine lv_lload_n hx hb dX5_cond_26 rfl (lv_at hl 2 rfl) ?_
          refine lv_aload_n hx hb dX5_cond_27 rfl (lv_at hl 0 rfl) ?_
          refine lv_iload_n hx hb dX5_cond_28 rfl (lv_at hl 1 rfl) ?_
          refine kq_l hw hS hA (va_runV (As := [.int zi901]) (rest := [.long wl161]) ⟨hx, hb, hml, hown, hT⟩ (cX5_all_4 l G cy ev K ln Ls hW _ hp237 ok238 qa900 zi901 kd900 (b_wid2 bd901 (by decide) (by decide))) (cwV 1 hT (good_V tb_914 tb_911 tb_913 tb_16 tb_109) rfl rfl rfl (by decide +kernel) ⟨Nat.le_of_ble_eq_true rfl, Nat.le_of_ble_eq_true rfl⟩) (pool_preV (ci := 5) hK hE hS hA hw hW kd900 (by decide) rfl) rfl rfl hl.1 rfl (lv_room (Nat.le_of_ble_eq_true rfl)) dX5_cond_29 ⟨Nat.le_of_ble_eq_true rfl, Nat.le_of_ble_eq_true rfl⟩) (fun wl256 hp252 H locs hq255 hw hS => ?_)
          obtain ⟨ok253, F254⟩ := hq255
          have hw : PW G cy K ln Ls A hp252 H := hw
          refine lv_lor hx hb dX5_cond_32 (lv_topl (fun wl257 _ => ?_))
          refine lv_lstore_n (lv' := [(2, .long wl257), (0, .ref qa900), (1, .int zi901), (4, .int zi162)]) hx hb dX5_cond_33 rfl hl (by decide) rfl (fun ls hl => ?_)
          obtain ⟨zi258, ea259⟩ : ∃ z : Int32, z = zi162 + 1 := ⟨_, rfl⟩
          have bd260 : (1 : Int) ≤ zi258.toInt ∧ zi258.toInt ≤ 401 := b_iadd ea259 bd236 bc_1 (by decide) (by decide) (by decide) (by decide)
          have qe261 : zi258.toInt = (zi162 : Int32).toInt + (1 : Int32).toInt := e_iadd ea259 bd236 bc_1 (by decide) (by decide)
          have qe262 : zi258.toInt = zi162.toInt + 1 := by have ha : (1 : Int32).toInt = 1 := (by decide); rw [ha] at qe261; exact qe261
          refine lv_iinc (v := zi258) (lv' := [(4, .int zi258), (2, .long wl257), (0, .ref qa900), (1, .int zi901)]) hx hb dX5_cond_34 hl (k := 3) rfl ea259.symm (by decide) rfl (fun ls hl => ?_)
          refine lv_goto (tgt := 9) hx hb dX5_cond_37 (by decide) ?_
          exact ih231 hp252 wl257 zi258 _ _ ls (by have := hm233; have := qe262; omega) ok253 (Fr.tr (Fr.tr (Fr.tr (Fr.rf) F164 (by decide)) F239 (by decide)) F254 (by decide)) (b_wid2 bd260 (by decide) (by decide)) (lv_sub hl [2, 3, 1, 0] rfl) hw hS
  exact lp232 _ hp1 wl5 0 _ _ ls (lp_in _) ok2 (Fr.rf) (b_wid2 bc_0 (by decide) (by decide)) (lv_sub hl [2, 3, 1, 0] rfl) hw hS

set_option maxRecDepth 100000 in
set_option maxHeartbeats 4000000 in
theorem cX5_literal_5 (l : Launch) (G : va_G) (cy : Nat → ClassId) (ev : Ew) (K ln : Nat → Nat) (Ls : List Nat) (hW : SW K ln Ls) (sz : Nat) (hp0 : Nat → Nat → Value) (ok0 : Ok K hp0) (qa900 : Nat) (zi901 : Int32) (kd900 : K qa900 = 6) (bd901 : ((1 : Int) ≤ zi901.toInt ∧ zi901.toInt ≤ 1)) : Met l yX5_literal (WS yX5_literal cX5_literal 6 (some .long)) { frames := 17, cells := 0, slots := 0, locals := 411 } (PB2 [.ref qa900, .int zi901] sz G cy ev (va_pl Ls (cellOf cy K ln hp0))) (QBl (S := (Nat → Nat → Value)) (fun (r : Int64) (u : (Nat → Nat → Value)) => Ok K u ∧ Fr [6002, 6003, 6004, 6005, 6006] K hp0 u) G (fun u => va_pl Ls (cellOf cy K ln u)) (va_A (va_pl Ls (cellOf cy K ln hp0)) sz)) 0 0 (va_A (va_pl Ls (cellOf cy K ln hp0)) sz) := by
  refine met_of2 (y := yX5_literal) (L := 6) (av := [.ref qa900, .int zi901]) (Qc := fun A => QBl (S := (Nat → Nat → Value)) (fun (r : Int64) (u : (Nat → Nat → Value)) => Ok K u ∧ Fr [6002, 6003, 6004, 6005, 6006] K hp0 u) G (fun u => va_pl Ls (cellOf cy K ln u)) A) (plainFor_of_name (by decide)) (Nat.le_of_ble_eq_true rfl) ?_
  intro p e s m below meth c hsz hx hb hr hml hown hT hlocks hin hK A hA hE hw hS ls hl
  have hw : PW G cy K ln Ls A hp0 s.heap := hw
  have hown : s.vm.findClass "LieClock$Parser" = some m.cls := hown
  have hl : lv_has ls 6 [(0, .ref qa900), (1, .int zi901)] := hl
  obtain ⟨Q, hQ⟩ : ∃ Q : State → Prop, Q = MQ below (QBl (S := (Nat → Nat → Value)) (fun (r : Int64) (u : (Nat → Nat → Value)) => Ok K u ∧ Fr [6002, 6003, 6004, 6005, 6006] K hp0 u) G (fun u => va_pl Ls (cellOf cy K ln u)) A) ([.ref qa900, .int zi901] : List Value).toArray s 0 0 A := ⟨_, rfl⟩
  rw [← hQ]
  refine lv_iconst (v := 0) hx hb dX5_literal_0 (by decide) ?_
  refine lv_istore_n (lv' := [(2, .int 0), (0, .ref qa900), (1, .int zi901)]) hx hb dX5_literal_1 rfl hl (by decide) rfl (fun ls hl => ?_)
  refine lv_iconst (v := 0) hx hb dX5_literal_2 (by decide) ?_
  refine lv_istore_n (lv' := [(3, .int 0), (2, .int 0), (0, .ref qa900), (1, .int zi901)]) hx hb dX5_literal_3 rfl hl (by decide) rfl (fun ls hl => ?_)
  have jn236 : ∀ (hp232 : Nat → Nat → Value) (zi231 : Int32) (H : Heap) (locs : List Loc) (ls : Array Slot), Ok K hp232 → Fr [6002, 6003, 6004] K hp0 hp232 → ((0 : Int) ≤ zi231.toInt ∧ zi231.toInt ≤ 1) → lv_has ls 6 [(0, .ref qa900), (1, .int zi901), (2, .int zi231)] → PW G cy K ln Ls A hp232 H → va_S A s.heap H locs → W p l e ({ frames := 17, cells := 0, slots := 0, locals := 411 } : Room) s m ([.ref qa900, .int zi901] : List Value).toArray below meth c H locs 0 0 Q (F0 m 36 ls []) := by
    intro hp232 zi231 H locs ls ok234 F233 bd235 hl hw hS
    refine lv_lconst (v := 0) hx hb dX5_literal_36 (by decide) ?_
    refine lv_lstore_n (lv' := [(3, .long 0), (0, .ref qa900), (1, .int zi901), (2, .int zi231)]) hx hb dX5_literal_37 rfl hl (by decide) rfl (fun ls hl => ?_)
    refine lv_aload_n hx hb dX5_literal_38 rfl (lv_at hl 1 rfl) ?_
    obtain ⟨zi238, eq237⟩ := rd_6003 ok234 kd900
    refine p_get (ci := 5) (v := .int zi238) (C := RX5) (T := TX5) (N := 7) hx hb hT iw_X5 hown hK hw hW kd900 (by decide) rfl rfl 3 (by decide) eq237 (hT _ tb_374) (fun _ h9 => h9) dX5_literal_39 ?_
    refine lv_bipush (v := 40) hx hb dX5_literal_42 (by decide) ?_
    have jn319 : ∀ (hp316 : Nat → Nat → Value) (wl315 : Int64) (H : Heap) (locs : List Loc) (ls : Array Slot), Ok K hp316 → Fr [6002, 6003, 6004, 6005, 6006] K hp232 hp316 → lv_has ls 6 [(2, .int zi231), (3, .long wl315)] → PW G cy K ln Ls A hp316 H → va_S A s.heap H locs → W p l e ({ frames := 17, cells := 0, slots := 0, locals := 411 } : Room) s m ([.ref qa900, .int zi901] : List Value).toArray below meth c H locs 0 0 Q (F0 m 113 ls []) := by
      intro hp316 wl315 H locs ls ok318 F317 hl hw hS
      refine lv_iload_n hx hb dX5_literal_113 rfl (lv_at hl 0 rfl) ?_
      refine lv_if_eq (tgt := 125) hx hb dX5_literal_114 (by decide) (fun cn320 => ?_) (fun cn320 => ?_)
      · skip
        have bd321 : (0 : Int) ≤ zi231.toInt ∧ zi231.toInt ≤ 0 := r_eq_x cn320 bd235 bc_0 (by decide) (by decide)
        refine lv_lload_n hx hb dX5_literal_125 rfl (lv_at hl 1 rfl) ?_
        rw [hQ]
        exact kz_l hx hb hr hlocks hS hp316 hw ⟨ok318, (Fr.tr (Fr.tr (Fr.rf) F233 (by decide)) F317 (by decide))⟩ (Nat.le_of_ble_eq_true rfl) (Nat.le_of_ble_eq_true rfl) dX5_literal_126
      · skip
        have bd322 : (1 : Int) ≤ zi231.toInt ∧ zi231.toInt ≤ 1 := r_ne_lo cn320 bd235 (toi bc_0) (by decide) (by decide)
        refine lv_lload_n hx hb dX5_literal_117 rfl (lv_at hl 1 rfl) ?_
        refine lv_ldc2 (v := (-1)) hx hb hown (hT _ tb_925) dX5_literal_118 ?_
        refine lv_lxor hx hb dX5_literal_121 (lv_topl (fun wl323 _ => ?_))
        refine lv_goto (tgt := 126) hx hb dX5_literal_122 (by decide) ?_
        rw [hQ]
        exact kz_l hx hb hr hlocks hS hp316 hw ⟨ok318, (Fr.tr (Fr.tr (Fr.rf) F233 (by decide)) F317 (by decide))⟩ (Nat.le_of_ble_eq_true rfl) (Nat.le_of_ble_eq_true rfl) dX5_literal_126
    refine lv_icmp_ne (tgt := 72) hx hb dX5_literal_44 (by decide) (fun cn239 => ?_) (fun cn239 => ?_)
    · skip
      refine lv_aload_n hx hb dX5_literal_72 rfl (lv_at hl 1 rfl) ?_
      obtain ⟨qa325, eq324, kd326⟩ := rd_6001 ok234 kd900
      refine p_get (ci := 5) (v := .ref qa325) (C := RX5) (T := TX5) (N := 7) hx hb hT iw_X5 hown hK hw hW kd900 (by decide) rfl rfl 1 (by decide) eq324 (hT _ tb_372) (fun _ h9 => h9) dX5_literal_73 ?_
      refine lv_aload_n hx hb dX5_literal_76 rfl (lv_at hl 1 rfl) ?_
      refine lv_iconst (v := 2) hx hb dX5_literal_77 (by decide) ?_
      refine kq_l hw hS hA (va_runV (As := [.int 2]) (rest := [.ref qa325]) ⟨hx, hb, hml, hown, hT⟩ (cX5_take_0 l G cy ev K ln Ls hW _ hp232 ok234 qa900 2 kd900) (cwV 1 hT (good_V tb_862 tb_859 tb_861 tb_10 tb_109) rfl rfl rfl (by decide +kernel) ⟨Nat.le_of_ble_eq_true rfl, Nat.le_of_ble_eq_true rfl⟩) (pool_preV (ci := 5) hK hE hS hA hw hW kd900 (by decide) rfl) rfl rfl hl.1 rfl (lv_room (Nat.le_of_ble_eq_true rfl)) dX5_literal_78 ⟨Nat.le_of_ble_eq_true rfl, Nat.le_of_ble_eq_true rfl⟩) (fun wl331 hp327 H locs hq330 hw hS => ?_)
      obtain ⟨ok328, F329⟩ := hq330
      have hw : PW G cy K ln Ls A hp327 H := hw
      refine kq_i hw hS hA (va_runV (As := [.long wl331]) (rest := []) ⟨hx, hb, hml, hown, hT⟩ (cX10_factNamed_0 l G cy ev K ln Ls hW _ hp327 ok328 qa325 wl331 kd326) (cwV 1 hT (good_V tb_870 tb_923 tb_868 tb_869 tb_107) rfl rfl rfl (by decide +kernel) ⟨Nat.le_of_ble_eq_true rfl, Nat.le_of_ble_eq_true rfl⟩) (pool_preV (ci := 10) hK hE hS hA hw hW kd326 (by decide) rfl) rfl rfl hl.1 rfl (lv_room (Nat.le_of_ble_eq_true rfl)) dX5_literal_81 ⟨Nat.le_of_ble_eq_true rfl, Nat.le_of_ble_eq_true rfl⟩) (fun zi336 hp332 H locs hq335 hw hS => ?_)
      obtain ⟨ok333, F334, bd337⟩ := hq335
      obtain rfl : hp327 = hp332 := (Fr.nil F334).symm
      have hw : PW G cy K ln Ls A hp327 H := hw
      refine lv_istore (lv' := [(5, .int zi336), (3, .long 0), (0, .ref qa900), (1, .int zi901), (2, .int zi231)]) hx hb dX5_literal_84 hl (by decide) rfl (fun ls hl => ?_)
      refine lv_iload hx hb dX5_literal_86 (lv_at hl 0 rfl) ?_
      refine lv_if_lt (tgt := 108) hx hb dX5_literal_88 (by decide) (fun cn338 => ?_) (fun cn338 => ?_)
      · skip
        have bd339 : (-1 : Int) ≤ zi336.toInt ∧ zi336.toInt ≤ -1 := r_lt_x cn338 bd337 bc_0 (by decide) (by decide)
        refine lv_aload_n hx hb dX5_literal_108 rfl (lv_at hl 2 rfl) ?_
        refine lv_iconst (v := 4) hx hb dX5_literal_109 (by decide) ?_
        refine kq_v hw hS hA (va_runV (As := [.int 4]) (rest := []) ⟨hx, hb, hml, hown, hT⟩ (cX5_failSoftly_0 l G cy ev K ln Ls hW _ hp327 ok328 qa900 4 kd900) (cwV 1 hT (good_V tb_881 tb_878 tb_880 tb_11 tb_109) rfl rfl rfl (by decide +kernel) ⟨Nat.le_of_ble_eq_true rfl, Nat.le_of_ble_eq_true rfl⟩) (pool_preV (ci := 5) hK hE hS hA hw hW kd900 (by decide) rfl) rfl rfl hl.1 rfl (lv_room (Nat.le_of_ble_eq_true rfl)) dX5_literal_110 ⟨Nat.le_of_ble_eq_true rfl, Nat.le_of_ble_eq_true rfl⟩) (fun hp340 H locs hq343 hw hS => ?_)
        obtain ⟨ok341, F342⟩ := hq343
        have hw : PW G cy K ln Ls A hp340 H := hw
        exact jn319 hp340 0 _ _ ls ok341 (Fr.tr (Fr.tr (Fr.rf) F329 (by decide)) F342 (by decide)) (lv_sub hl [4, 1] rfl) hw hS
      · skip
        have bd345 : (0 : Int) ≤ zi336.toInt ∧ zi336.toInt ≤ 5 := r_le_y (Int32.not_lt.mp cn338) bc_0 bd337 (by decide) (by decide)
        refine lv_iload hx hb dX5_literal_91 (lv_at hl 0 rfl) ?_
        refine lv_bipush (v := 6) hx hb dX5_literal_93 (by decide) ?_
        refine lv_icmp_ge (tgt := 108) hx hb dX5_literal_95 (by decide) (fun c => absurd c (d_nle bc_6 bd345 (by decide))) (fun _ => ?_)
        refine va_getsN hx hb hE.2.1 hS hown (hK.fl nw_820) (fun _ h9 => h9) dX5_literal_98 ?_
        refine lv_iload hx hb dX5_literal_101 (lv_at hl 0 rfl) ?_
        obtain ⟨wl346, _⟩ : ∃ w : Int64, w = ev.2.2 (zi336 : Int32).toNatClampNeg := ⟨_, rfl⟩
        refine va_tl (v := .long (ev.2.2 (zi336 : Int32).toNatClampNeg)) hx hb hE.2.2 hS (vp_b bd345 (by decide) (by decide)) rfl dX5_literal_103 (lv_topl (fun wl346x _ => ?_))
        refine lv_lstore_n (lv' := [(3, .long wl346x), (5, .int zi336), (0, .ref qa900), (1, .int zi901), (2, .int zi231)]) hx hb dX5_literal_104 rfl hl (by decide) rfl (fun ls hl => ?_)
        refine lv_goto (tgt := 113) hx hb dX5_literal_105 (by decide) ?_
        exact jn319 hp327 wl346x _ _ ls ok328 (Fr.tr (Fr.rf) F329 (by decide)) (lv_sub hl [4, 0] rfl) hw hS
    · skip
      have bd347 : (40 : Int) ≤ zi238.toInt ∧ zi238.toInt ≤ 40 := r_eq_x cn239 (b_all zi238) bc_40 (by decide) (by decide)
      refine lv_aload_n hx hb dX5_literal_47 rfl (lv_at hl 1 rfl) ?_
      refine lv_iload_n hx hb dX5_literal_48 rfl (lv_at hl 2 rfl) ?_
      refine kq_i hw hS hA (va_runV (As := [.int zi901]) (rest := []) ⟨hx, hb, hml, hown, hT⟩ (cX5_enter_1 l G cy ev K ln Ls hW _ hp232 ok234 qa900 zi901 kd900 (b_wid2 bd901 (by decide) (by decide))) (cwV 1 hT (good_V tb_922 tb_919 tb_921 tb_18 tb_109) rfl rfl rfl (by decide +kernel) ⟨Nat.le_of_ble_eq_true rfl, Nat.le_of_ble_eq_true rfl⟩) (pool_preV (ci := 5) hK hE hS hA hw hW kd900 (by decide) rfl) rfl rfl hl.1 rfl (lv_room (Nat.le_of_ble_eq_true rfl)) dX5_literal_49 ⟨Nat.le_of_ble_eq_true rfl, Nat.le_of_ble_eq_true rfl⟩) (fun zi352 hp348 H locs hq351 hw hS => ?_)
      obtain ⟨ok349, F350, bd353, hc354, hc355⟩ := hq351
      have hw : PW G cy K ln Ls A hp348 H := hw
      have jn377 : ∀ (hp374 : Nat → Nat → Value) (wl373 : Int64) (H : Heap) (locs : List Loc) (ls : Array Slot), Ok K hp374 → Fr [6002, 6003, 6004, 6005, 6006] K hp348 hp374 → lv_has ls 6 [(0, .ref qa900), (2, .int zi231), (3, .long wl373)] → PW G cy K ln Ls A hp374 H → va_S A s.heap H locs → W p l e ({ frames := 17, cells := 0, slots := 0, locals := 411 } : Room) s m ([.ref qa900, .int zi901] : List Value).toArray below meth c H locs 0 0 Q (F0 m 63 ls []) := by
        intro hp374 wl373 H locs ls ok376 F375 hl hw hS
        refine lv_aload_n hx hb dX5_literal_63 rfl (lv_at hl 0 rfl) ?_
        refine lv_bipush (v := 41) hx hb dX5_literal_64 (by decide) ?_
        refine kq_v hw hS hA (va_runV (As := [.int 41]) (rest := []) ⟨hx, hb, hml, hown, hT⟩ (cX5_expect_0 l G cy ev K ln Ls hW _ hp374 ok376 qa900 41 kd900) (cwV 1 hT (good_V tb_889 tb_886 tb_888 tb_12 tb_109) rfl rfl rfl (by decide +kernel) ⟨Nat.le_of_ble_eq_true rfl, Nat.le_of_ble_eq_true rfl⟩) (pool_preV (ci := 5) hK hE hS hA hw hW kd900 (by decide) rfl) rfl rfl hl.1 rfl (lv_room (Nat.le_of_ble_eq_true rfl)) dX5_literal_66 ⟨Nat.le_of_ble_eq_true rfl, Nat.le_of_ble_eq_true rfl⟩) (fun hp378 H locs hq381 hw hS => ?_)
        obtain ⟨ok379, F380⟩ := hq381
        have hw : PW G cy K ln Ls A hp378 H := hw
        refine lv_goto (tgt := 113) hx hb dX5_literal_69 (by decide) ?_
        exact jn319 hp378 wl373 _ _ ls ok379 (Fr.tr (Fr.tr (Fr.tr (Fr.rf) F350 (by decide)) F375 (by decide)) F380 (by decide)) (lv_sub hl [1, 2] rfl) hw hS
      rcases b01 bd353 with cn356 | cn356
      · skip
        subst cn356
        refine lv_if_eq (tgt := 63) hx hb dX5_literal_52 (by decide) (fun _ => ?_) (fun c => absurd (d_eq bc_0 bc_0) c)
        exact jn377 hp348 0 _ _ ls ok349 (Fr.rf) (lv_sub hl [1, 3, 0] rfl) hw hS
      · skip
        subst cn356
        obtain ⟨zi383, eq384, bd385⟩ := hc354 rfl
        obtain ⟨zi386, eq387, bd388⟩ := hc355 rfl
        refine lv_if_eq (tgt := 63) hx hb dX5_literal_52 (by decide) (fun c => absurd c (d_ne bc_1 bc_0 (by decide))) (fun _ => ?_)
        refine lv_aload_n hx hb dX5_literal_55 rfl (lv_at hl 1 rfl) ?_
        refine lv_iload_n hx hb dX5_literal_56 rfl (lv_at hl 2 rfl) ?_
        refine lv_iconst (v := 1) hx hb dX5_literal_57 (by decide) ?_
        refine lv_iadd hx hb dX5_literal_58 (lv_topi (fun zi389 ea390 => ?_))
        have bd391 : (2 : Int) ≤ zi389.toInt ∧ zi389.toInt ≤ 2 := b_iadd ea390 bd901 bc_1 (by decide) (by decide) (by decide) (by decide)
        have qe392 : zi389.toInt = (zi901 : Int32).toInt + (1 : Int32).toInt := e_iadd ea390 bd901 bc_1 (by decide) (by decide)
        have qe393 : zi389.toInt = zi901.toInt + 1 := by have ha : (1 : Int32).toInt = 1 := (by decide); rw [ha] at qe392; exact qe392
        refine kq_l hw hS hA (va_runV (As := [.int zi389]) (rest := []) ⟨hx, hb, hml, hown, hT⟩ (cX5_cond_4 l G cy ev K ln Ls hW _ hp348 ok349 qa900 zi389 kd900 (b_wid2 bd391 (by decide) (by decide))) (cwV 1 hT (good_V tb_910 tb_907 tb_909 tb_15 tb_109) rfl rfl rfl (by decide +kernel) ⟨Nat.le_of_ble_eq_true rfl, Nat.le_of_ble_eq_true rfl⟩) (pool_preV (ci := 5) hK hE hS hA hw hW kd900 (by decide) rfl) rfl rfl hl.1 rfl (lv_room (Nat.le_of_ble_eq_true rfl)) dX5_literal_59 ⟨Nat.le_of_ble_eq_true rfl, Nat.le_of_ble_eq_true rfl⟩) (fun wl398 hp394 H locs hq397 hw hS => ?_)
        obtain ⟨ok395, F396⟩ := hq397
        have hw : PW G cy K ln Ls A hp394 H := hw
        refine lv_lstore_n (lv' := [(3, .long wl398), (0, .ref qa900), (1, .int zi901), (2, .int zi231)]) hx hb dX5_literal_62 rfl hl (by decide) rfl (fun ls hl => ?_)
        exact jn377 hp394 wl398 _ _ ls ok395 (Fr.tr (Fr.rf) F396 (by decide)) (lv_sub hl [1, 3, 0] rfl) hw hS
  have lp401 : ∀ (n399 : Nat) (hp164 : Nat → Nat → Value) (zi162 : Int32) (zi163 : Int32) (H : Heap) (locs : List Loc) (ls : Array Slot), 401 - zi163.toInt < (n399 : Int) → Ok K hp164 → Fr [6002, 6003, 6004] K hp0 hp164 → ((0 : Int) ≤ zi162.toInt ∧ zi162.toInt ≤ 1) → ((0 : Int) ≤ zi163.toInt ∧ zi163.toInt ≤ 401) → lv_has ls 6 [(0, .ref qa900), (1, .int zi901), (2, .int zi162), (3, .int zi163)] → PW G cy K ln Ls A hp164 H → va_S A s.heap H locs → W p l e ({ frames := 17, cells := 0, slots := 0, locals := 411 } : Room) s m ([.ref qa900, .int zi901] : List Value).toArray below meth c H locs 0 0 Q (F0 m 4 ls []) := by
    intro n399
    induction n399 with
    | zero =>
      intro hp164 zi162 zi163 H locs ls hm402 ok166 F165 bd167 bd168 hl hw hS
      exact absurd hm402 (by have := bd168; omega)
    | succ n399 ih400 =>
      intro hp164 zi162 zi163 H locs ls hm402 ok166 F165 bd167 bd168 hl hw hS
      refine lv_iload_n hx hb dX5_literal_4 rfl (lv_at hl 3 rfl) ?_
      refine lv_sipush (v := 400) hx hb dX5_literal_5 (by decide) ?_
      refine lv_icmp_gt (tgt := 36) hx hb dX5_literal_8 (by decide) (fun cn403 => ?_) (fun cn403 => ?_)
      · skip
        have bd404 : (401 : Int) ≤ zi163.toInt ∧ zi163.toInt ≤ 401 := r_lt_y cn403 bc_400 bd168 (by decide) (by decide)
        exact jn236 hp164 zi162 _ _ ls ok166 (Fr.tr (Fr.rf) F165 (by decide)) (b_wid2 bd167 (by decide) (by decide)) (lv_sub hl [0, 1, 2] rfl) hw hS
      · skip
        have bd405 : (0 : Int) ≤ zi163.toInt ∧ zi163.toInt ≤ 400 := r_le_x (Int32.not_lt.mp cn403) bd168 bc_400 (by decide) (by decide)
        refine lv_aload_n hx hb dX5_literal_11 rfl (lv_at hl 0 rfl) ?_
        refine lv_bipush (v := 113) hx hb dX5_literal_12 (by decide) ?_
        refine kq_i hw hS hA (va_runV (As := [.int 113]) (rest := []) ⟨hx, hb, hml, hown, hT⟩ (cX5_accept_0 l G cy ev K ln Ls hW _ hp164 ok166 qa900 113 kd900) (cwV 1 hT (good_V tb_854 tb_851 tb_853 tb_8 tb_109) rfl rfl rfl (by decide +kernel) ⟨Nat.le_of_ble_eq_true rfl, Nat.le_of_ble_eq_true rfl⟩) (pool_preV (ci := 5) hK hE hS hA hw hW kd900 (by decide) rfl) rfl rfl hl.1 rfl (lv_room (Nat.le_of_ble_eq_true rfl)) dX5_literal_14 ⟨Nat.le_of_ble_eq_true rfl, Nat.le_of_ble_eq_true rfl⟩) (fun zi410 hp406 H locs hq409 hw hS => ?_)
        obtain ⟨ok407, F408, bd411, hc412, hc413⟩ := hq409
        have hw : PW G cy K ln Ls A hp406 H := hw
        rcases b01 bd411 with cn414 | cn414
        · skip
          subst cn414
          refine lv_if_eq (tgt := 36) hx hb dX5_literal_17 (by decide) (fun _ => ?_) (fun c => absurd (d_eq bc_0 bc_0) c)
          exact jn236 hp406 zi162 _ _ ls ok407 (Fr.tr (Fr.tr (Fr.rf) F165 (by decide)) F408 (by decide)) (b_wid2 bd167 (by decide) (by decide)) (lv_sub hl [0, 1, 2] rfl) hw hS
        · skip
          subst cn414
          obtain ⟨zi415, eq416, bd417⟩ := hc412 rfl
          obtain ⟨zi418, eq419, bd420⟩ := hc413 rfl
          refine lv_if_eq (tgt := 36) hx hb dX5_literal_17 (by decide) (fun c => absurd c (d_ne bc_1 bc_0 (by decide))) (fun _ => ?_)
          refine lv_iload_n hx hb dX5_literal_20 rfl (lv_at hl 2 rfl) ?_
          have jn426 : ∀ (zi424 : Int32) (H : Heap) (locs : List Loc) (ls : Array Slot), ((0 : Int) ≤ zi424.toInt ∧ zi424.toInt ≤ 1) → lv_has ls 6 [(0, .ref qa900), (1, .int zi901), (3, .int zi163)] → PW G cy K ln Ls A hp406 H → va_S A s.heap H locs → W p l e ({ frames := 17, cells := 0, slots := 0, locals := 411 } : Room) s m ([.ref qa900, .int zi901] : List Value).toArray below meth c H locs 0 0 Q (F0 m 29 ls [.int zi424]) := by
            intro zi424 H locs ls bd425 hl hw hS
            refine lv_istore_n (lv' := [(2, .int zi424), (0, .ref qa900), (1, .int zi901), (3, .int zi163)]) hx hb dX5_literal_29 rfl hl (by decide) rfl (fun ls hl => ?_)
            obtain ⟨zi427, ea428⟩ : ∃ z : Int32, z = zi163 + 1 := ⟨_, rfl⟩
            have bd429 : (1 : Int) ≤ zi427.toInt ∧ zi427.toInt ≤ 401 := b_iadd ea428 bd405 bc_1 (by decide) (by decide) (by decide) (by decide)
            have qe430 : zi427.toInt = (zi163 : Int32).toInt + (1 : Int32).toInt := e_iadd ea428 bd405 bc_1 (by decide) (by decide)
            have qe431 : zi427.toInt = zi163.toInt + 1 := by have ha : (1 : Int32).toInt = 1 := (by decide); rw [ha] at qe430; exact qe430
            refine lv_iinc (v := zi427) (lv' := [(3, .int zi427), (2, .int zi424), (0, .ref qa900), (1, .int zi901)]) hx hb dX5_literal_30 hl (k := 3) rfl ea428.symm (by decide) rfl (fun ls hl => ?_)
            refine lv_goto (tgt := 4) hx hb dX5_literal_33 (by decide) ?_
            exact ih400 hp406 zi424 zi427 _ _ ls (by have := hm402; have := qe431; omega) ok407 (Fr.tr (Fr.tr (Fr.rf) F165 (by decide)) F408 (by decide)) (b_wid2 bd425 (by decide) (by decide)) (b_wid2 bd429 (by decide) (by decide)) (lv_sub hl [2, 3, 1, 0] rfl) hw hS
          refine lv_if_ne (tgt := 28) hx hb dX5_literal_21 (by decide) (fun cn421 => ?_) (fun cn421 => ?_)
          · skip
            have bd432 : (1 : Int) ≤ zi162.toInt ∧ zi162.toInt ≤ 1 := r_ne_lo cn421 bd167 (toi bc_0) (by decide) (by decide)
            refine lv_iconst (v := 0) hx hb dX5_literal_28 (by decide) ?_
            exact jn426 0 _ _ ls (b_wid2 bc_0 (by decide) (by decide)) (lv_sub hl [0, 1, 3] rfl) hw hS
          · skip
            have bd433 : (0 : Int) ≤ zi162.toInt ∧ zi162.toInt ≤ 0 := r_eq_x cn421 bd167 bc_0 (by decide) (by decide)
            refine lv_iconst (v := 1) hx hb dX5_literal_24 (by decide) ?_
            refine lv_goto (tgt := 29) hx hb dX5_literal_25 (by decide) ?_
            exact jn426 1 _ _ ls (b_wid2 bc_1 (by decide) (by decide)) (lv_sub hl [0, 1, 3] rfl) hw hS
  exact lp401 _ hp0 0 0 _ _ ls (lp_in _) ok0 (Fr.rf) (b_wid2 bc_0 (by decide) (by decide)) (b_wid2 bc_0 (by decide) (by decide)) (lv_sub hl [2, 3, 1, 0] rfl) hw hS

set_option maxRecDepth 100000 in
set_option maxHeartbeats 4000000 in
theorem cX5_all_5 (l : Launch) (G : va_G) (cy : Nat → ClassId) (ev : Ew) (K ln : Nat → Nat) (Ls : List Nat) (hW : SW K ln Ls) (sz : Nat) (hp0 : Nat → Nat → Value) (ok0 : Ok K hp0) (qa900 : Nat) (zi901 : Int32) (kd900 : K qa900 = 6) (bd901 : ((1 : Int) ≤ zi901.toInt ∧ zi901.toInt ≤ 1)) : Met l yX5_all (WS yX5_all cX5_all 5 (some .long)) { frames := 18, cells := 0, slots := 0, locals := 436 } (PB2 [.ref qa900, .int zi901] sz G cy ev (va_pl Ls (cellOf cy K ln hp0))) (QBl (S := (Nat → Nat → Value)) (fun (r : Int64) (u : (Nat → Nat → Value)) => Ok K u ∧ Fr [6002, 6003, 6004, 6005, 6006] K hp0 u) G (fun u => va_pl Ls (cellOf cy K ln u)) (va_A (va_pl Ls (cellOf cy K ln hp0)) sz)) 0 0 (va_A (va_pl Ls (cellOf cy K ln hp0)) sz) := by
  refine met_of2 (y := yX5_all) (L := 5) (av := [.ref qa900, .int zi901]) (Qc := fun A => QBl (S := (Nat → Nat → Value)) (fun (r : Int64) (u : (Nat → Nat → Value)) => Ok K u ∧ Fr [6002, 6003, 6004, 6005, 6006] K hp0 u) G (fun u => va_pl Ls (cellOf cy K ln u)) A) (plainFor_of_name (by decide)) (Nat.le_of_ble_eq_true rfl) ?_
  intro p e s m below meth c hsz hx hb hr hml hown hT hlocks hin hK A hA hE hw hS ls hl
  have hw : PW G cy K ln Ls A hp0 s.heap := hw
  have hown : s.vm.findClass "LieClock$Parser" = some m.cls := hown
  have hl : lv_has ls 5 [(0, .ref qa900), (1, .int zi901)] := hl
  obtain ⟨Q, hQ⟩ : ∃ Q : State → Prop, Q = MQ below (QBl (S := (Nat → Nat → Value)) (fun (r : Int64) (u : (Nat → Nat → Value)) => Ok K u ∧ Fr [6002, 6003, 6004, 6005, 6006] K hp0 u) G (fun u => va_pl Ls (cellOf cy K ln u)) A) ([.ref qa900, .int zi901] : List Value).toArray s 0 0 A := ⟨_, rfl⟩
  rw [← hQ]
  refine lv_aload_n hx hb dX5_all_0 rfl (lv_at hl 0 rfl) ?_
  refine lv_iload_n hx hb dX5_all_1 rfl (lv_at hl 1 rfl) ?_
  refine kq_l hw hS hA (va_runV (As := [.int zi901]) (rest := []) ⟨hx, hb, hml, hown, hT⟩ (cX5_literal_5 l G cy ev K ln Ls hW _ hp0 ok0 qa900 zi901 kd900 (b_wid2 bd901 (by decide) (by decide))) (cwV 1 hT (good_V tb_918 tb_915 tb_917 tb_17 tb_109) rfl rfl rfl (by decide +kernel) ⟨Nat.le_of_ble_eq_true rfl, Nat.le_of_ble_eq_true rfl⟩) (pool_preV (ci := 5) hK hE hS hA hw hW kd900 (by decide) rfl) rfl rfl hl.1 rfl (lv_room (Nat.le_of_ble_eq_true rfl)) dX5_all_2 ⟨Nat.le_of_ble_eq_true rfl, Nat.le_of_ble_eq_true rfl⟩) (fun wl5 hp1 H locs hq4 hw hS => ?_)
  obtain ⟨ok2, F3⟩ := hq4
  have hw : PW G cy K ln Ls A hp1 H := hw
  refine lv_lstore_n (lv' := [(2, .long wl5), (0, .ref qa900), (1, .int zi901)]) hx hb dX5_all_5 rfl hl (by decide) rfl (fun ls hl => ?_)
  refine lv_iconst (v := 0) hx hb dX5_all_6 (by decide) ?_
  refine lv_istore (lv' := [(4, .int 0), (2, .long wl5), (0, .ref qa900), (1, .int zi901)]) hx hb dX5_all_7 hl (by decide) rfl (fun ls hl => ?_)
  have jn229 : ∀ (hp226 : Nat → Nat → Value) (wl225 : Int64) (H : Heap) (locs : List Loc) (ls : Array Slot), Ok K hp226 → Fr [6002, 6003, 6004, 6005, 6006] K hp1 hp226 → lv_has ls 5 [(2, .long wl225)] → PW G cy K ln Ls A hp226 H → va_S A s.heap H locs → W p l e ({ frames := 18, cells := 0, slots := 0, locals := 436 } : Room) s m ([.ref qa900, .int zi901] : List Value).toArray below meth c H locs 0 0 Q (F0 m 40 ls []) := by
    intro hp226 wl225 H locs ls ok228 F227 hl hw hS
    refine lv_lload_n hx hb dX5_all_40 rfl (lv_at hl 0 rfl) ?_
    rw [hQ]
    exact kz_l hx hb hr hlocks hS hp226 hw ⟨ok228, (Fr.tr (Fr.tr (Fr.rf) F3 (by decide)) F227 (by decide))⟩ (Nat.le_of_ble_eq_true rfl) (Nat.le_of_ble_eq_true rfl) dX5_all_41
  have lp232 : ∀ (n230 : Nat) (hp163 : Nat → Nat → Value) (wl161 : Int64) (zi162 : Int32) (H : Heap) (locs : List Loc) (ls : Array Slot), 401 - zi162.toInt < (n230 : Int) → Ok K hp163 → Fr [6002, 6003, 6004, 6005, 6006] K hp1 hp163 → ((0 : Int) ≤ zi162.toInt ∧ zi162.toInt ≤ 401) → lv_has ls 5 [(0, .ref qa900), (1, .int zi901), (2, .long wl161), (4, .int zi162)] → PW G cy K ln Ls A hp163 H → va_S A s.heap H locs → W p l e ({ frames := 18, cells := 0, slots := 0, locals := 436 } : Room) s m ([.ref qa900, .int zi901] : List Value).toArray below meth c H locs 0 0 Q (F0 m 9 ls []) := by
    intro n230
    induction n230 with
    | zero =>
      intro hp163 wl161 zi162 H locs ls hm233 ok165 F164 bd166 hl hw hS
      exact absurd hm233 (by have := bd166; omega)
    | succ n230 ih231 =>
      intro hp163 wl161 zi162 H locs ls hm233 ok165 F164 bd166 hl hw hS
      refine lv_iload hx hb dX5_all_9 (lv_at hl 3 rfl) ?_
      refine lv_sipush (v := 400) hx hb dX5_all_11 (by decide) ?_
      refine lv_icmp_gt (tgt := 40) hx hb dX5_all_14 (by decide) (fun cn234 => ?_) (fun cn234 => ?_)
      · skip
        have bd235 : (401 : Int) ≤ zi162.toInt ∧ zi162.toInt ≤ 401 := r_lt_y cn234 bc_400 bd166 (by decide) (by decide)
        exact jn229 hp163 wl161 _ _ ls ok165 (Fr.tr (Fr.rf) F164 (by decide)) (lv_sub hl [2] rfl) hw hS
      · skip
        have bd236 : (0 : Int) ≤ zi162.toInt ∧ zi162.toInt ≤ 400 := r_le_x (Int32.not_lt.mp cn234) bd166 bc_400 (by decide) (by decide)
        refine lv_aload_n hx hb dX5_all_17 rfl (lv_at hl 0 rfl) ?_
        refine lv_bipush (v := 112) hx hb dX5_all_18 (by decide) ?_
        refine kq_i hw hS hA (va_runV (As := [.int 112]) (rest := []) ⟨hx, hb, hml, hown, hT⟩ (cX5_accept_0 l G cy ev K ln Ls hW _ hp163 ok165 qa900 112 kd900) (cwV 1 hT (good_V tb_854 tb_851 tb_853 tb_8 tb_109) rfl rfl rfl (by decide +kernel) ⟨Nat.le_of_ble_eq_true rfl, Nat.le_of_ble_eq_true rfl⟩) (pool_preV (ci := 5) hK hE hS hA hw hW kd900 (by decide) rfl) rfl rfl hl.1 rfl (lv_room (Nat.le_of_ble_eq_true rfl)) dX5_all_20 ⟨Nat.le_of_ble_eq_true rfl, Nat.le_of_ble_eq_true rfl⟩) (fun zi241 hp237 H locs hq240 hw hS => ?_)
        obtain ⟨ok238, F239, bd242, hc243, hc244⟩ := hq240
        have hw : PW G cy K ln Ls A hp237 H := hw
        rcases b01 bd242 with cn245 | cn245
        · skip
          subst cn245
          refine lv_if_eq (tgt := 40) hx hb dX5_all_23 (by decide) (fun _ => ?_) (fun c => absurd (d_eq bc_0 bc_0) c)
          exact jn229 hp237 wl161 _ _ ls ok238 (Fr.tr (Fr.tr (Fr.rf) F164 (by decide)) F239 (by decide)) (lv_sub hl [2] rfl) hw hS
        · skip
          subst cn245
          obtain ⟨zi246, eq247, bd248⟩ := hc243 rfl
          obtain ⟨zi249, eq250, bd251⟩ := hc244 rfl
          refine lv_if_eq (tgt := 40) hx hb dX5_all_23 (by decide) (fun c => absurd c (d_ne bc_1 bc_0 (by decide))) (fun _ => ?_)
          refine lv_lload_n hx hb dX5_all_26 rfl (lv_at hl 2 rfl) ?_
          refine lv_aload_n hx hb dX5_all_27 rfl (lv_at hl 0 rfl) ?_
          refine lv_iload_n hx hb dX5_all_28 rfl (lv_at hl 1 rfl) ?_
          refine kq_l hw hS hA (va_runV (As := [.int zi901]) (rest := [.long wl161]) ⟨hx, hb, hml, hown, hT⟩ (cX5_literal_5 l G cy ev K ln Ls hW _ hp237 ok238 qa900 zi901 kd900 (b_wid2 bd901 (by decide) (by decide))) (cwV 1 hT (good_V tb_918 tb_915 tb_917 tb_17 tb_109) rfl rfl rfl (by decide +kernel) ⟨Nat.le_of_ble_eq_true rfl, Nat.le_of_ble_eq_true rfl⟩) (pool_preV (ci := 5) hK hE hS hA hw hW kd900 (by decide) rfl) rfl rfl hl.1 rfl (lv_room (Nat.le_of_ble_eq_true rfl)) dX5_all_29 ⟨Nat.le_of_ble_eq_true rfl, Nat.le_of_ble_eq_true rfl⟩) (fun wl256 hp252 H locs hq255 hw hS => ?_)
          obtain ⟨ok253, F254⟩ := hq255
          have hw : PW G cy K ln Ls A hp252 H := hw
          refine lv_land hx hb dX5_all_32 (lv_topl (fun wl257 _ => ?_))
          refine lv_lstore_n (lv' := [(2, .long wl257), (0, .ref qa900), (1, .int zi901), (4, .int zi162)]) hx hb dX5_all_33 rfl hl (by decide) rfl (fun ls hl => ?_)
          obtain ⟨zi258, ea259⟩ : ∃ z : Int32, z = zi162 + 1 := ⟨_, rfl⟩
          have bd260 : (1 : Int) ≤ zi258.toInt ∧ zi258.toInt ≤ 401 := b_iadd ea259 bd236 bc_1 (by decide) (by decide) (by decide) (by decide)
          have qe261 : zi258.toInt = (zi162 : Int32).toInt + (1 : Int32).toInt := e_iadd ea259 bd236 bc_1 (by decide) (by decide)
          have qe262 : zi258.toInt = zi162.toInt + 1 := by have ha : (1 : Int32).toInt = 1 := (by decide); rw [ha] at qe261; exact qe261
          refine lv_iinc (v := zi258) (lv' := [(4, .int zi258), (2, .long wl257), (0, .ref qa900), (1, .int zi901)]) hx hb dX5_all_34 hl (k := 3) rfl ea259.symm (by decide) rfl (fun ls hl => ?_)
          refine lv_goto (tgt := 9) hx hb dX5_all_37 (by decide) ?_
          exact ih231 hp252 wl257 zi258 _ _ ls (by have := hm233; have := qe262; omega) ok253 (Fr.tr (Fr.tr (Fr.tr (Fr.rf) F164 (by decide)) F239 (by decide)) F254 (by decide)) (b_wid2 bd260 (by decide) (by decide)) (lv_sub hl [2, 3, 1, 0] rfl) hw hS
  exact lp232 _ hp1 wl5 0 _ _ ls (lp_in _) ok2 (Fr.rf) (b_wid2 bc_0 (by decide) (by decide)) (lv_sub hl [2, 3, 1, 0] rfl) hw hS

set_option maxRecDepth 100000 in
set_option maxHeartbeats 4000000 in
theorem cX5_cond_5 (l : Launch) (G : va_G) (cy : Nat → ClassId) (ev : Ew) (K ln : Nat → Nat) (Ls : List Nat) (hW : SW K ln Ls) (sz : Nat) (hp0 : Nat → Nat → Value) (ok0 : Ok K hp0) (qa900 : Nat) (zi901 : Int32) (kd900 : K qa900 = 6) (bd901 : ((1 : Int) ≤ zi901.toInt ∧ zi901.toInt ≤ 1)) : Met l yX5_cond (WS yX5_cond cX5_cond 5 (some .long)) { frames := 19, cells := 0, slots := 0, locals := 460 } (PB2 [.ref qa900, .int zi901] sz G cy ev (va_pl Ls (cellOf cy K ln hp0))) (QBl (S := (Nat → Nat → Value)) (fun (r : Int64) (u : (Nat → Nat → Value)) => Ok K u ∧ Fr [6002, 6003, 6004, 6005, 6006] K hp0 u) G (fun u => va_pl Ls (cellOf cy K ln u)) (va_A (va_pl Ls (cellOf cy K ln hp0)) sz)) 0 0 (va_A (va_pl Ls (cellOf cy K ln hp0)) sz) := by
  refine met_of2 (y := yX5_cond) (L := 5) (av := [.ref qa900, .int zi901]) (Qc := fun A => QBl (S := (Nat → Nat → Value)) (fun (r : Int64) (u : (Nat → Nat → Value)) => Ok K u ∧ Fr [6002, 6003, 6004, 6005, 6006] K hp0 u) G (fun u => va_pl Ls (cellOf cy K ln u)) A) (plainFor_of_name (by decide)) (Nat.le_of_ble_eq_true rfl) ?_
  intro p e s m below meth c hsz hx hb hr hml hown hT hlocks hin hK A hA hE hw hS ls hl
  have hw : PW G cy K ln Ls A hp0 s.heap := hw
  have hown : s.vm.findClass "LieClock$Parser" = some m.cls := hown
  have hl : lv_has ls 5 [(0, .ref qa900), (1, .int zi901)] := hl
  obtain ⟨Q, hQ⟩ : ∃ Q : State → Prop, Q = MQ below (QBl (S := (Nat → Nat → Value)) (fun (r : Int64) (u : (Nat → Nat → Value)) => Ok K u ∧ Fr [6002, 6003, 6004, 6005, 6006] K hp0 u) G (fun u => va_pl Ls (cellOf cy K ln u)) A) ([.ref qa900, .int zi901] : List Value).toArray s 0 0 A := ⟨_, rfl⟩
  rw [← hQ]
  refine lv_aload_n hx hb dX5_cond_0 rfl (lv_at hl 0 rfl) ?_
  refine lv_iload_n hx hb dX5_cond_1 rfl (lv_at hl 1 rfl) ?_
  refine kq_l hw hS hA (va_runV (As := [.int zi901]) (rest := []) ⟨hx, hb, hml, hown, hT⟩ (cX5_all_5 l G cy ev K ln Ls hW _ hp0 ok0 qa900 zi901 kd900 (b_wid2 bd901 (by decide) (by decide))) (cwV 1 hT (good_V tb_914 tb_911 tb_913 tb_16 tb_109) rfl rfl rfl (by decide +kernel) ⟨Nat.le_of_ble_eq_true rfl, Nat.le_of_ble_eq_true rfl⟩) (pool_preV (ci := 5) hK hE hS hA hw hW kd900 (by decide) rfl) rfl rfl hl.1 rfl (lv_room (Nat.le_of_ble_eq_true rfl)) dX5_cond_2 ⟨Nat.le_of_ble_eq_true rfl, Nat.le_of_ble_eq_true rfl⟩) (fun wl5 hp1 H locs hq4 hw hS => ?_)
  obtain ⟨ok2, F3⟩ := hq4
  have hw : PW G cy K ln Ls A hp1 H := hw
  refine lv_lstore_n (lv' := [(2, .long wl5), (0, .ref qa900), (1, .int zi901)]) hx hb dX5_cond_5 rfl hl (by decide) rfl (fun ls hl => ?_)
  refine lv_iconst (v := 0) hx hb dX5_cond_6 (by decide) ?_
  refine lv_istore (lv' := [(4, .int 0), (2, .long wl5), (0, .ref qa900), (1, .int zi901)]) hx hb dX5_cond_7 hl (by decide) rfl (fun ls hl => ?_)
  have jn229 : ∀ (hp226 : Nat → Nat → Value) (wl225 : Int64) (H : Heap) (locs : List Loc) (ls : Array Slot), Ok K hp226 → Fr [6002, 6003, 6004, 6005, 6006] K hp1 hp226 → lv_has ls 5 [(2, .long wl225)] → PW G cy K ln Ls A hp226 H → va_S A s.heap H locs → W p l e ({ frames := 19, cells := 0, slots := 0, locals := 460 } : Room) s m ([.ref qa900, .int zi901] : List Value).toArray below meth c H locs 0 0 Q (F0 m 40 ls []) := by
    intro hp226 wl225 H locs ls ok228 F227 hl hw hS
    refine lv_lload_n hx hb dX5_cond_40 rfl (lv_at hl 0 rfl) ?_
    rw [hQ]
    exact kz_l hx hb hr hlocks hS hp226 hw ⟨ok228, (Fr.tr (Fr.tr (Fr.rf) F3 (by decide)) F227 (by decide))⟩ (Nat.le_of_ble_eq_true rfl) (Nat.le_of_ble_eq_true rfl) dX5_cond_41
  have lp232 : ∀ (n230 : Nat) (hp163 : Nat → Nat → Value) (wl161 : Int64) (zi162 : Int32) (H : Heap) (locs : List Loc) (ls : Array Slot), 401 - zi162.toInt < (n230 : Int) → Ok K hp163 → Fr [6002, 6003, 6004, 6005, 6006] K hp1 hp163 → ((0 : Int) ≤ zi162.toInt ∧ zi162.toInt ≤ 401) → lv_has ls 5 [(0, .ref qa900), (1, .int zi901), (2, .long wl161), (4, .int zi162)] → PW G cy K ln Ls A hp163 H → va_S A s.heap H locs → W p l e ({ frames := 19, cells := 0, slots := 0, locals := 460 } : Room) s m ([.ref qa900, .int zi901] : List Value).toArray below meth c H locs 0 0 Q (F0 m 9 ls []) := by
    intro n230
    induction n230 with
    | zero =>
      intro hp163 wl161 zi162 H locs ls hm233 ok165 F164 bd166 hl hw hS
      exact absurd hm233 (by have := bd166; omega)
    | succ n230 ih231 =>
      intro hp163 wl161 zi162 H locs ls hm233 ok165 F164 bd166 hl hw hS
      refine lv_iload hx hb dX5_cond_9 (lv_at hl 3 rfl) ?_
      refine lv_sipush (v := 400) hx hb dX5_cond_11 (by decide) ?_
      refine lv_icmp_gt (tgt := 40) hx hb dX5_cond_14 (by decide) (fun cn234 => ?_) (fun cn234 => ?_)
      · skip
        have bd235 : (401 : Int) ≤ zi162.toInt ∧ zi162.toInt ≤ 401 := r_lt_y cn234 bc_400 bd166 (by decide) (by decide)
        exact jn229 hp163 wl161 _ _ ls ok165 (Fr.tr (Fr.rf) F164 (by decide)) (lv_sub hl [2] rfl) hw hS
      · skip
        have bd236 : (0 : Int) ≤ zi162.toInt ∧ zi162.toInt ≤ 400 := r_le_x (Int32.not_lt.mp cn234) bd166 bc_400 (by decide) (by decide)
        refine lv_aload_n hx hb dX5_cond_17 rfl (lv_at hl 0 rfl) ?_
        refine lv_bipush (v := 111) hx hb dX5_cond_18 (by decide) ?_
        refine kq_i hw hS hA (va_runV (As := [.int 111]) (rest := []) ⟨hx, hb, hml, hown, hT⟩ (cX5_accept_0 l G cy ev K ln Ls hW _ hp163 ok165 qa900 111 kd900) (cwV 1 hT (good_V tb_854 tb_851 tb_853 tb_8 tb_109) rfl rfl rfl (by decide +kernel) ⟨Nat.le_of_ble_eq_true rfl, Nat.le_of_ble_eq_true rfl⟩) (pool_preV (ci := 5) hK hE hS hA hw hW kd900 (by decide) rfl) rfl rfl hl.1 rfl (lv_room (Nat.le_of_ble_eq_true rfl)) dX5_cond_20 ⟨Nat.le_of_ble_eq_true rfl, Nat.le_of_ble_eq_true rfl⟩) (fun zi241 hp237 H locs hq240 hw hS => ?_)
        obtain ⟨ok238, F239, bd242, hc243, hc244⟩ := hq240
        have hw : PW G cy K ln Ls A hp237 H := hw
        rcases b01 bd242 with cn245 | cn245
        · skip
          subst cn245
          refine lv_if_eq (tgt := 40) hx hb dX5_cond_23 (by decide) (fun _ => ?_) (fun c => absurd (d_eq bc_0 bc_0) c)
          exact jn229 hp237 wl161 _ _ ls ok238 (Fr.tr (Fr.tr (Fr.rf) F164 (by decide)) F239 (by decide)) (lv_sub hl [2] rfl) hw hS
        · skip
          subst cn245
          obtain ⟨zi246, eq247, bd248⟩ := hc243 rfl
          obtain ⟨zi249, eq250, bd251⟩ := hc244 rfl
          refine lv_if_eq (tgt := 40) hx hb dX5_cond_23 (by decide) (fun c => absurd c (d_ne bc_1 bc_0 (by decide))) (fun _ => ?_)
          refine lv_lload_n hx hb dX5_cond_26 rfl (lv_at hl 2 rfl) ?_
          refine lv_aload_n hx hb dX5_cond_27 rfl (lv_at hl 0 rfl) ?_
          refine lv_iload_n hx hb dX5_cond_28 rfl (lv_at hl 1 rfl) ?_
          refine kq_l hw hS hA (va_runV (As := [.int zi901]) (rest := [.long wl161]) ⟨hx, hb, hml, hown, hT⟩ (cX5_all_5 l G cy ev K ln Ls hW _ hp237 ok238 qa900 zi901 kd900 (b_wid2 bd901 (by decide) (by decide))) (cwV 1 hT (good_V tb_914 tb_911 tb_913 tb_16 tb_109) rfl rfl rfl (by decide +kernel) ⟨Nat.le_of_ble_eq_true rfl, Nat.le_of_ble_eq_true rfl⟩) (pool_preV (ci := 5) hK hE hS hA hw hW kd900 (by decide) rfl) rfl rfl hl.1 rfl (lv_room (Nat.le_of_ble_eq_true rfl)) dX5_cond_29 ⟨Nat.le_of_ble_eq_true rfl, Nat.le_of_ble_eq_true rfl⟩) (fun wl256 hp252 H locs hq255 hw hS => ?_)
          obtain ⟨ok253, F254⟩ := hq255
          have hw : PW G cy K ln Ls A hp252 H := hw
          refine lv_lor hx hb dX5_cond_32 (lv_topl (fun wl257 _ => ?_))
          refine lv_lstore_n (lv' := [(2, .long wl257), (0, .ref qa900), (1, .int zi901), (4, .int zi162)]) hx hb dX5_cond_33 rfl hl (by decide) rfl (fun ls hl => ?_)
          obtain ⟨zi258, ea259⟩ : ∃ z : Int32, z = zi162 + 1 := ⟨_, rfl⟩
          have bd260 : (1 : Int) ≤ zi258.toInt ∧ zi258.toInt ≤ 401 := b_iadd ea259 bd236 bc_1 (by decide) (by decide) (by decide) (by decide)
          have qe261 : zi258.toInt = (zi162 : Int32).toInt + (1 : Int32).toInt := e_iadd ea259 bd236 bc_1 (by decide) (by decide)
          have qe262 : zi258.toInt = zi162.toInt + 1 := by have ha : (1 : Int32).toInt = 1 := (by decide); rw [ha] at qe261; exact qe261
          refine lv_iinc (v := zi258) (lv' := [(4, .int zi258), (2, .long wl257), (0, .ref qa900), (1, .int zi901)]) hx hb dX5_cond_34 hl (k := 3) rfl ea259.symm (by decide) rfl (fun ls hl => ?_)
          refine lv_goto (tgt := 9) hx hb dX5_cond_37 (by decide) ?_
          exact ih231 hp252 wl257 zi258 _ _ ls (by have := hm233; have := qe262; omega) ok253 (Fr.tr (Fr.tr (Fr.tr (Fr.rf) F164 (by decide)) F239 (by decide)) F254 (by decide)) (b_wid2 bd260 (by decide) (by decide)) (lv_sub hl [2, 3, 1, 0] rfl) hw hS
  exact lp232 _ hp1 wl5 0 _ _ ls (lp_in _) ok2 (Fr.rf) (b_wid2 bc_0 (by decide) (by decide)) (lv_sub hl [2, 3, 1, 0] rfl) hw hS

set_option maxRecDepth 100000 in
set_option maxHeartbeats 4000000 in
theorem cX5_literal_6 (l : Launch) (G : va_G) (cy : Nat → ClassId) (ev : Ew) (K ln : Nat → Nat) (Ls : List Nat) (hW : SW K ln Ls) (sz : Nat) (hp0 : Nat → Nat → Value) (ok0 : Ok K hp0) (qa900 : Nat) (zi901 : Int32) (kd900 : K qa900 = 6) (bd901 : ((0 : Int) ≤ zi901.toInt ∧ zi901.toInt ≤ 0)) : Met l yX5_literal (WS yX5_literal cX5_literal 6 (some .long)) { frames := 20, cells := 0, slots := 0, locals := 484 } (PB2 [.ref qa900, .int zi901] sz G cy ev (va_pl Ls (cellOf cy K ln hp0))) (QBl (S := (Nat → Nat → Value)) (fun (r : Int64) (u : (Nat → Nat → Value)) => Ok K u ∧ Fr [6002, 6003, 6004, 6005, 6006] K hp0 u) G (fun u => va_pl Ls (cellOf cy K ln u)) (va_A (va_pl Ls (cellOf cy K ln hp0)) sz)) 0 0 (va_A (va_pl Ls (cellOf cy K ln hp0)) sz) := by
  refine met_of2 (y := yX5_literal) (L := 6) (av := [.ref qa900, .int zi901]) (Qc := fun A => QBl (S := (Nat → Nat → Value)) (fun (r : Int64) (u : (Nat → Nat → Value)) => Ok K u ∧ Fr [6002, 6003, 6004, 6005, 6006] K hp0 u) G (fun u => va_pl Ls (cellOf cy K ln u)) A) (plainFor_of_name (by decide)) (Nat.le_of_ble_eq_true rfl) ?_
  intro p e s m below meth c hsz hx hb hr hml hown hT hlocks hin hK A hA hE hw hS ls hl
  have hw : PW G cy K ln Ls A hp0 s.heap := hw
  have hown : s.vm.findClass "LieClock$Parser" = some m.cls := hown
  have hl : lv_has ls 6 [(0, .ref qa900), (1, .int zi901)] := hl
  obtain ⟨Q, hQ⟩ : ∃ Q : State → Prop, Q = MQ below (QBl (S := (Nat → Nat → Value)) (fun (r : Int64) (u : (Nat → Nat → Value)) => Ok K u ∧ Fr [6002, 6003, 6004, 6005, 6006] K hp0 u) G (fun u => va_pl Ls (cellOf cy K ln u)) A) ([.ref qa900, .int zi901] : List Value).toArray s 0 0 A := ⟨_, rfl⟩
  rw [← hQ]
  refine lv_iconst (v := 0) hx hb dX5_literal_0 (by decide) ?_
  refine lv_istore_n (lv' := [(2, .int 0), (0, .ref qa900), (1, .int zi901)]) hx hb dX5_literal_1 rfl hl (by decide) rfl (fun ls hl => ?_)
  refine lv_iconst (v := 0) hx hb dX5_literal_2 (by decide) ?_
  refine lv_istore_n (lv' := [(3, .int 0), (2, .int 0), (0, .ref qa900), (1, .int zi901)]) hx hb dX5_literal_3 rfl hl (by decide) rfl (fun ls hl => ?_)
  have jn236 : ∀ (hp232 : Nat → Nat → Value) (zi231 : Int32) (H : Heap) (locs : List Loc) (ls : Array Slot), Ok K hp232 → Fr [6002, 6003, 6004] K hp0 hp232 → ((0 : Int) ≤ zi231.toInt ∧ zi231.toInt ≤ 1) → lv_has ls 6 [(0, .ref qa900), (1, .int zi901), (2, .int zi231)] → PW G cy K ln Ls A hp232 H → va_S A s.heap H locs → W p l e ({ frames := 20, cells := 0, slots := 0, locals := 484 } : Room) s m ([.ref qa900, .int zi901] : List Value).toArray below meth c H locs 0 0 Q (F0 m 36 ls []) := by
    intro hp232 zi231 H locs ls ok234 F233 bd235 hl hw hS
    refine lv_lconst (v := 0) hx hb dX5_literal_36 (by decide) ?_
    refine lv_lstore_n (lv' := [(3, .long 0), (0, .ref qa900), (1, .int zi901), (2, .int zi231)]) hx hb dX5_literal_37 rfl hl (by decide) rfl (fun ls hl => ?_)
    refine lv_aload_n hx hb dX5_literal_38 rfl (lv_at hl 1 rfl) ?_
    obtain ⟨zi238, eq237⟩ := rd_6003 ok234 kd900
    refine p_get (ci := 5) (v := .int zi238) (C := RX5) (T := TX5) (N := 7) hx hb hT iw_X5 hown hK hw hW kd900 (by decide) rfl rfl 3 (by decide) eq237 (hT _ tb_374) (fun _ h9 => h9) dX5_literal_39 ?_
    refine lv_bipush (v := 40) hx hb dX5_literal_42 (by decide) ?_
    have jn319 : ∀ (hp316 : Nat → Nat → Value) (wl315 : Int64) (H : Heap) (locs : List Loc) (ls : Array Slot), Ok K hp316 → Fr [6002, 6003, 6004, 6005, 6006] K hp232 hp316 → lv_has ls 6 [(2, .int zi231), (3, .long wl315)] → PW G cy K ln Ls A hp316 H → va_S A s.heap H locs → W p l e ({ frames := 20, cells := 0, slots := 0, locals := 484 } : Room) s m ([.ref qa900, .int zi901] : List Value).toArray below meth c H locs 0 0 Q (F0 m 113 ls []) := by
      intro hp316 wl315 H locs ls ok318 F317 hl hw hS
      refine lv_iload_n hx hb dX5_literal_113 rfl (lv_at hl 0 rfl) ?_
      refine lv_if_eq (tgt := 125) hx hb dX5_literal_114 (by decide) (fun cn320 => ?_) (fun cn320 => ?_)
      · skip
        have bd321 : (0 : Int) ≤ zi231.toInt ∧ zi231.toInt ≤ 0 := r_eq_x cn320 bd235 bc_0 (by decide) (by decide)
        refine lv_lload_n hx hb dX5_literal_125 rfl (lv_at hl 1 rfl) ?_
        rw [hQ]
        exact kz_l hx hb hr hlocks hS hp316 hw ⟨ok318, (Fr.tr (Fr.tr (Fr.rf) F233 (by decide)) F317 (by decide))⟩ (Nat.le_of_ble_eq_true rfl) (Nat.le_of_ble_eq_true rfl) dX5_literal_126
      · skip
        have bd322 : (1 : Int) ≤ zi231.toInt ∧ zi231.toInt ≤ 1 := r_ne_lo cn320 bd235 (toi bc_0) (by decide) (by decide)
        refine lv_lload_n hx hb dX5_literal_117 rfl (lv_at hl 1 rfl) ?_
        refine lv_ldc2 (v := (-1)) hx hb hown (hT _ tb_925) dX5_literal_118 ?_
        refine lv_lxor hx hb dX5_literal_121 (lv_topl (fun wl323 _ => ?_))
        refine lv_goto (tgt := 126) hx hb dX5_literal_122 (by decide) ?_
        rw [hQ]
        exact kz_l hx hb hr hlocks hS hp316 hw ⟨ok318, (Fr.tr (Fr.tr (Fr.rf) F233 (by decide)) F317 (by decide))⟩ (Nat.le_of_ble_eq_true rfl) (Nat.le_of_ble_eq_true rfl) dX5_literal_126
    refine lv_icmp_ne (tgt := 72) hx hb dX5_literal_44 (by decide) (fun cn239 => ?_) (fun cn239 => ?_)
    · skip
      refine lv_aload_n hx hb dX5_literal_72 rfl (lv_at hl 1 rfl) ?_
      obtain ⟨qa325, eq324, kd326⟩ := rd_6001 ok234 kd900
      refine p_get (ci := 5) (v := .ref qa325) (C := RX5) (T := TX5) (N := 7) hx hb hT iw_X5 hown hK hw hW kd900 (by decide) rfl rfl 1 (by decide) eq324 (hT _ tb_372) (fun _ h9 => h9) dX5_literal_73 ?_
      refine lv_aload_n hx hb dX5_literal_76 rfl (lv_at hl 1 rfl) ?_
      refine lv_iconst (v := 2) hx hb dX5_literal_77 (by decide) ?_
      refine kq_l hw hS hA (va_runV (As := [.int 2]) (rest := [.ref qa325]) ⟨hx, hb, hml, hown, hT⟩ (cX5_take_0 l G cy ev K ln Ls hW _ hp232 ok234 qa900 2 kd900) (cwV 1 hT (good_V tb_862 tb_859 tb_861 tb_10 tb_109) rfl rfl rfl (by decide +kernel) ⟨Nat.le_of_ble_eq_true rfl, Nat.le_of_ble_eq_true rfl⟩) (pool_preV (ci := 5) hK hE hS hA hw hW kd900 (by decide) rfl) rfl rfl hl.1 rfl (lv_room (Nat.le_of_ble_eq_true rfl)) dX5_literal_78 ⟨Nat.le_of_ble_eq_true rfl, Nat.le_of_ble_eq_true rfl⟩) (fun wl331 hp327 H locs hq330 hw hS => ?_)
      obtain ⟨ok328, F329⟩ := hq330
      have hw : PW G cy K ln Ls A hp327 H := hw
      refine kq_i hw hS hA (va_runV (As := [.long wl331]) (rest := []) ⟨hx, hb, hml, hown, hT⟩ (cX10_factNamed_0 l G cy ev K ln Ls hW _ hp327 ok328 qa325 wl331 kd326) (cwV 1 hT (good_V tb_870 tb_923 tb_868 tb_869 tb_107) rfl rfl rfl (by decide +kernel) ⟨Nat.le_of_ble_eq_true rfl, Nat.le_of_ble_eq_true rfl⟩) (pool_preV (ci := 10) hK hE hS hA hw hW kd326 (by decide) rfl) rfl rfl hl.1 rfl (lv_room (Nat.le_of_ble_eq_true rfl)) dX5_literal_81 ⟨Nat.le_of_ble_eq_true rfl, Nat.le_of_ble_eq_true rfl⟩) (fun zi336 hp332 H locs hq335 hw hS => ?_)
      obtain ⟨ok333, F334, bd337⟩ := hq335
      obtain rfl : hp327 = hp332 := (Fr.nil F334).symm
      have hw : PW G cy K ln Ls A hp327 H := hw
      refine lv_istore (lv' := [(5, .int zi336), (3, .long 0), (0, .ref qa900), (1, .int zi901), (2, .int zi231)]) hx hb dX5_literal_84 hl (by decide) rfl (fun ls hl => ?_)
      refine lv_iload hx hb dX5_literal_86 (lv_at hl 0 rfl) ?_
      refine lv_if_lt (tgt := 108) hx hb dX5_literal_88 (by decide) (fun cn338 => ?_) (fun cn338 => ?_)
      · skip
        have bd339 : (-1 : Int) ≤ zi336.toInt ∧ zi336.toInt ≤ -1 := r_lt_x cn338 bd337 bc_0 (by decide) (by decide)
        refine lv_aload_n hx hb dX5_literal_108 rfl (lv_at hl 2 rfl) ?_
        refine lv_iconst (v := 4) hx hb dX5_literal_109 (by decide) ?_
        refine kq_v hw hS hA (va_runV (As := [.int 4]) (rest := []) ⟨hx, hb, hml, hown, hT⟩ (cX5_failSoftly_0 l G cy ev K ln Ls hW _ hp327 ok328 qa900 4 kd900) (cwV 1 hT (good_V tb_881 tb_878 tb_880 tb_11 tb_109) rfl rfl rfl (by decide +kernel) ⟨Nat.le_of_ble_eq_true rfl, Nat.le_of_ble_eq_true rfl⟩) (pool_preV (ci := 5) hK hE hS hA hw hW kd900 (by decide) rfl) rfl rfl hl.1 rfl (lv_room (Nat.le_of_ble_eq_true rfl)) dX5_literal_110 ⟨Nat.le_of_ble_eq_true rfl, Nat.le_of_ble_eq_true rfl⟩) (fun hp340 H locs hq343 hw hS => ?_)
        obtain ⟨ok341, F342⟩ := hq343
        have hw : PW G cy K ln Ls A hp340 H := hw
        exact jn319 hp340 0 _ _ ls ok341 (Fr.tr (Fr.tr (Fr.rf) F329 (by decide)) F342 (by decide)) (lv_sub hl [4, 1] rfl) hw hS
      · skip
        have bd345 : (0 : Int) ≤ zi336.toInt ∧ zi336.toInt ≤ 5 := r_le_y (Int32.not_lt.mp cn338) bc_0 bd337 (by decide) (by decide)
        refine lv_iload hx hb dX5_literal_91 (lv_at hl 0 rfl) ?_
        refine lv_bipush (v := 6) hx hb dX5_literal_93 (by decide) ?_
        refine lv_icmp_ge (tgt := 108) hx hb dX5_literal_95 (by decide) (fun c => absurd c (d_nle bc_6 bd345 (by decide))) (fun _ => ?_)
        refine va_getsN hx hb hE.2.1 hS hown (hK.fl nw_820) (fun _ h9 => h9) dX5_literal_98 ?_
        refine lv_iload hx hb dX5_literal_101 (lv_at hl 0 rfl) ?_
        obtain ⟨wl346, _⟩ : ∃ w : Int64, w = ev.2.2 (zi336 : Int32).toNatClampNeg := ⟨_, rfl⟩
        refine va_tl (v := .long (ev.2.2 (zi336 : Int32).toNatClampNeg)) hx hb hE.2.2 hS (vp_b bd345 (by decide) (by decide)) rfl dX5_literal_103 (lv_topl (fun wl346x _ => ?_))
        refine lv_lstore_n (lv' := [(3, .long wl346x), (5, .int zi336), (0, .ref qa900), (1, .int zi901), (2, .int zi231)]) hx hb dX5_literal_104 rfl hl (by decide) rfl (fun ls hl => ?_)
        refine lv_goto (tgt := 113) hx hb dX5_literal_105 (by decide) ?_
        exact jn319 hp327 wl346x _ _ ls ok328 (Fr.tr (Fr.rf) F329 (by decide)) (lv_sub hl [4, 0] rfl) hw hS
    · skip
      have bd347 : (40 : Int) ≤ zi238.toInt ∧ zi238.toInt ≤ 40 := r_eq_x cn239 (b_all zi238) bc_40 (by decide) (by decide)
      refine lv_aload_n hx hb dX5_literal_47 rfl (lv_at hl 1 rfl) ?_
      refine lv_iload_n hx hb dX5_literal_48 rfl (lv_at hl 2 rfl) ?_
      refine kq_i hw hS hA (va_runV (As := [.int zi901]) (rest := []) ⟨hx, hb, hml, hown, hT⟩ (cX5_enter_0 l G cy ev K ln Ls hW _ hp232 ok234 qa900 zi901 kd900 (b_wid2 bd901 (by decide) (by decide))) (cwV 1 hT (good_V tb_922 tb_919 tb_921 tb_18 tb_109) rfl rfl rfl (by decide +kernel) ⟨Nat.le_of_ble_eq_true rfl, Nat.le_of_ble_eq_true rfl⟩) (pool_preV (ci := 5) hK hE hS hA hw hW kd900 (by decide) rfl) rfl rfl hl.1 rfl (lv_room (Nat.le_of_ble_eq_true rfl)) dX5_literal_49 ⟨Nat.le_of_ble_eq_true rfl, Nat.le_of_ble_eq_true rfl⟩) (fun zi352 hp348 H locs hq351 hw hS => ?_)
      obtain ⟨ok349, F350, bd353, hc354, hc355⟩ := hq351
      have hw : PW G cy K ln Ls A hp348 H := hw
      have jn377 : ∀ (hp374 : Nat → Nat → Value) (wl373 : Int64) (H : Heap) (locs : List Loc) (ls : Array Slot), Ok K hp374 → Fr [6002, 6003, 6004, 6005, 6006] K hp348 hp374 → lv_has ls 6 [(0, .ref qa900), (2, .int zi231), (3, .long wl373)] → PW G cy K ln Ls A hp374 H → va_S A s.heap H locs → W p l e ({ frames := 20, cells := 0, slots := 0, locals := 484 } : Room) s m ([.ref qa900, .int zi901] : List Value).toArray below meth c H locs 0 0 Q (F0 m 63 ls []) := by
        intro hp374 wl373 H locs ls ok376 F375 hl hw hS
        refine lv_aload_n hx hb dX5_literal_63 rfl (lv_at hl 0 rfl) ?_
        refine lv_bipush (v := 41) hx hb dX5_literal_64 (by decide) ?_
        refine kq_v hw hS hA (va_runV (As := [.int 41]) (rest := []) ⟨hx, hb, hml, hown, hT⟩ (cX5_expect_0 l G cy ev K ln Ls hW _ hp374 ok376 qa900 41 kd900) (cwV 1 hT (good_V tb_889 tb_886 tb_888 tb_12 tb_109) rfl rfl rfl (by decide +kernel) ⟨Nat.le_of_ble_eq_true rfl, Nat.le_of_ble_eq_true rfl⟩) (pool_preV (ci := 5) hK hE hS hA hw hW kd900 (by decide) rfl) rfl rfl hl.1 rfl (lv_room (Nat.le_of_ble_eq_true rfl)) dX5_literal_66 ⟨Nat.le_of_ble_eq_true rfl, Nat.le_of_ble_eq_true rfl⟩) (fun hp378 H locs hq381 hw hS => ?_)
        obtain ⟨ok379, F380⟩ := hq381
        have hw : PW G cy K ln Ls A hp378 H := hw
        refine lv_goto (tgt := 113) hx hb dX5_literal_69 (by decide) ?_
        exact jn319 hp378 wl373 _ _ ls ok379 (Fr.tr (Fr.tr (Fr.tr (Fr.rf) F350 (by decide)) F375 (by decide)) F380 (by decide)) (lv_sub hl [1, 2] rfl) hw hS
      rcases b01 bd353 with cn356 | cn356
      · skip
        subst cn356
        refine lv_if_eq (tgt := 63) hx hb dX5_literal_52 (by decide) (fun _ => ?_) (fun c => absurd (d_eq bc_0 bc_0) c)
        exact jn377 hp348 0 _ _ ls ok349 (Fr.rf) (lv_sub hl [1, 3, 0] rfl) hw hS
      · skip
        subst cn356
        obtain ⟨zi383, eq384, bd385⟩ := hc354 rfl
        obtain ⟨zi386, eq387, bd388⟩ := hc355 rfl
        refine lv_if_eq (tgt := 63) hx hb dX5_literal_52 (by decide) (fun c => absurd c (d_ne bc_1 bc_0 (by decide))) (fun _ => ?_)
        refine lv_aload_n hx hb dX5_literal_55 rfl (lv_at hl 1 rfl) ?_
        refine lv_iload_n hx hb dX5_literal_56 rfl (lv_at hl 2 rfl) ?_
        refine lv_iconst (v := 1) hx hb dX5_literal_57 (by decide) ?_
        refine lv_iadd hx hb dX5_literal_58 (lv_topi (fun zi389 ea390 => ?_))
        have bd391 : (1 : Int) ≤ zi389.toInt ∧ zi389.toInt ≤ 1 := b_iadd ea390 bd901 bc_1 (by decide) (by decide) (by decide) (by decide)
        have qe392 : zi389.toInt = (zi901 : Int32).toInt + (1 : Int32).toInt := e_iadd ea390 bd901 bc_1 (by decide) (by decide)
        have qe393 : zi389.toInt = zi901.toInt + 1 := by have ha : (1 : Int32).toInt = 1 := (by decide); rw [ha] at qe392; exact qe392
        refine kq_l hw hS hA (va_runV (As := [.int zi389]) (rest := []) ⟨hx, hb, hml, hown, hT⟩ (cX5_cond_5 l G cy ev K ln Ls hW _ hp348 ok349 qa900 zi389 kd900 (b_wid2 bd391 (by decide) (by decide))) (cwV 1 hT (good_V tb_910 tb_907 tb_909 tb_15 tb_109) rfl rfl rfl (by decide +kernel) ⟨Nat.le_of_ble_eq_true rfl, Nat.le_of_ble_eq_true rfl⟩) (pool_preV (ci := 5) hK hE hS hA hw hW kd900 (by decide) rfl) rfl rfl hl.1 rfl (lv_room (Nat.le_of_ble_eq_true rfl)) dX5_literal_59 ⟨Nat.le_of_ble_eq_true rfl, Nat.le_of_ble_eq_true rfl⟩) (fun wl398 hp394 H locs hq397 hw hS => ?_)
        obtain ⟨ok395, F396⟩ := hq397
        have hw : PW G cy K ln Ls A hp394 H := hw
        refine lv_lstore_n (lv' := [(3, .long wl398), (0, .ref qa900), (1, .int zi901), (2, .int zi231)]) hx hb dX5_literal_62 rfl hl (by decide) rfl (fun ls hl => ?_)
        exact jn377 hp394 wl398 _ _ ls ok395 (Fr.tr (Fr.rf) F396 (by decide)) (lv_sub hl [1, 3, 0] rfl) hw hS
  have lp401 : ∀ (n399 : Nat) (hp164 : Nat → Nat → Value) (zi162 : Int32) (zi163 : Int32) (H : Heap) (locs : List Loc) (ls : Array Slot), 401 - zi163.toInt < (n399 : Int) → Ok K hp164 → Fr [6002, 6003, 6004] K hp0 hp164 → ((0 : Int) ≤ zi162.toInt ∧ zi162.toInt ≤ 1) → ((0 : Int) ≤ zi163.toInt ∧ zi163.toInt ≤ 401) → lv_has ls 6 [(0, .ref qa900), (1, .int zi901), (2, .int zi162), (3, .int zi163)] → PW G cy K ln Ls A hp164 H → va_S A s.heap H locs → W p l e ({ frames := 20, cells := 0, slots := 0, locals := 484 } : Room) s m ([.ref qa900, .int zi901] : List Value).toArray below meth c H locs 0 0 Q (F0 m 4 ls []) := by
    intro n399
    induction n399 with
    | zero =>
      intro hp164 zi162 zi163 H locs ls hm402 ok166 F165 bd167 bd168 hl hw hS
      exact absurd hm402 (by have := bd168; omega)
    | succ n399 ih400 =>
      intro hp164 zi162 zi163 H locs ls hm402 ok166 F165 bd167 bd168 hl hw hS
      refine lv_iload_n hx hb dX5_literal_4 rfl (lv_at hl 3 rfl) ?_
      refine lv_sipush (v := 400) hx hb dX5_literal_5 (by decide) ?_
      refine lv_icmp_gt (tgt := 36) hx hb dX5_literal_8 (by decide) (fun cn403 => ?_) (fun cn403 => ?_)
      · skip
        have bd404 : (401 : Int) ≤ zi163.toInt ∧ zi163.toInt ≤ 401 := r_lt_y cn403 bc_400 bd168 (by decide) (by decide)
        exact jn236 hp164 zi162 _ _ ls ok166 (Fr.tr (Fr.rf) F165 (by decide)) (b_wid2 bd167 (by decide) (by decide)) (lv_sub hl [0, 1, 2] rfl) hw hS
      · skip
        have bd405 : (0 : Int) ≤ zi163.toInt ∧ zi163.toInt ≤ 400 := r_le_x (Int32.not_lt.mp cn403) bd168 bc_400 (by decide) (by decide)
        refine lv_aload_n hx hb dX5_literal_11 rfl (lv_at hl 0 rfl) ?_
        refine lv_bipush (v := 113) hx hb dX5_literal_12 (by decide) ?_
        refine kq_i hw hS hA (va_runV (As := [.int 113]) (rest := []) ⟨hx, hb, hml, hown, hT⟩ (cX5_accept_0 l G cy ev K ln Ls hW _ hp164 ok166 qa900 113 kd900) (cwV 1 hT (good_V tb_854 tb_851 tb_853 tb_8 tb_109) rfl rfl rfl (by decide +kernel) ⟨Nat.le_of_ble_eq_true rfl, Nat.le_of_ble_eq_true rfl⟩) (pool_preV (ci := 5) hK hE hS hA hw hW kd900 (by decide) rfl) rfl rfl hl.1 rfl (lv_room (Nat.le_of_ble_eq_true rfl)) dX5_literal_14 ⟨Nat.le_of_ble_eq_true rfl, Nat.le_of_ble_eq_true rfl⟩) (fun zi410 hp406 H locs hq409 hw hS => ?_)
        obtain ⟨ok407, F408, bd411, hc412, hc413⟩ := hq409
        have hw : PW G cy K ln Ls A hp406 H := hw
        rcases b01 bd411 with cn414 | cn414
        · skip
          subst cn414
          refine lv_if_eq (tgt := 36) hx hb dX5_literal_17 (by decide) (fun _ => ?_) (fun c => absurd (d_eq bc_0 bc_0) c)
          exact jn236 hp406 zi162 _ _ ls ok407 (Fr.tr (Fr.tr (Fr.rf) F165 (by decide)) F408 (by decide)) (b_wid2 bd167 (by decide) (by decide)) (lv_sub hl [0, 1, 2] rfl) hw hS
        · skip
          subst cn414
          obtain ⟨zi415, eq416, bd417⟩ := hc412 rfl
          obtain ⟨zi418, eq419, bd420⟩ := hc413 rfl
          refine lv_if_eq (tgt := 36) hx hb dX5_literal_17 (by decide) (fun c => absurd c (d_ne bc_1 bc_0 (by decide))) (fun _ => ?_)
          refine lv_iload_n hx hb dX5_literal_20 rfl (lv_at hl 2 rfl) ?_
          have jn426 : ∀ (zi424 : Int32) (H : Heap) (locs : List Loc) (ls : Array Slot), ((0 : Int) ≤ zi424.toInt ∧ zi424.toInt ≤ 1) → lv_has ls 6 [(0, .ref qa900), (1, .int zi901), (3, .int zi163)] → PW G cy K ln Ls A hp406 H → va_S A s.heap H locs → W p l e ({ frames := 20, cells := 0, slots := 0, locals := 484 } : Room) s m ([.ref qa900, .int zi901] : List Value).toArray below meth c H locs 0 0 Q (F0 m 29 ls [.int zi424]) := by
            intro zi424 H locs ls bd425 hl hw hS
            refine lv_istore_n (lv' := [(2, .int zi424), (0, .ref qa900), (1, .int zi901), (3, .int zi163)]) hx hb dX5_literal_29 rfl hl (by decide) rfl (fun ls hl => ?_)
            obtain ⟨zi427, ea428⟩ : ∃ z : Int32, z = zi163 + 1 := ⟨_, rfl⟩
            have bd429 : (1 : Int) ≤ zi427.toInt ∧ zi427.toInt ≤ 401 := b_iadd ea428 bd405 bc_1 (by decide) (by decide) (by decide) (by decide)
            have qe430 : zi427.toInt = (zi163 : Int32).toInt + (1 : Int32).toInt := e_iadd ea428 bd405 bc_1 (by decide) (by decide)
            have qe431 : zi427.toInt = zi163.toInt + 1 := by have ha : (1 : Int32).toInt = 1 := (by decide); rw [ha] at qe430; exact qe430
            refine lv_iinc (v := zi427) (lv' := [(3, .int zi427), (2, .int zi424), (0, .ref qa900), (1, .int zi901)]) hx hb dX5_literal_30 hl (k := 3) rfl ea428.symm (by decide) rfl (fun ls hl => ?_)
            refine lv_goto (tgt := 4) hx hb dX5_literal_33 (by decide) ?_
            exact ih400 hp406 zi424 zi427 _ _ ls (by have := hm402; have := qe431; omega) ok407 (Fr.tr (Fr.tr (Fr.rf) F165 (by decide)) F408 (by decide)) (b_wid2 bd425 (by decide) (by decide)) (b_wid2 bd429 (by decide) (by decide)) (lv_sub hl [2, 3, 1, 0] rfl) hw hS
          refine lv_if_ne (tgt := 28) hx hb dX5_literal_21 (by decide) (fun cn421 => ?_) (fun cn421 => ?_)
          · skip
            have bd432 : (1 : Int) ≤ zi162.toInt ∧ zi162.toInt ≤ 1 := r_ne_lo cn421 bd167 (toi bc_0) (by decide) (by decide)
            refine lv_iconst (v := 0) hx hb dX5_literal_28 (by decide) ?_
            exact jn426 0 _ _ ls (b_wid2 bc_0 (by decide) (by decide)) (lv_sub hl [0, 1, 3] rfl) hw hS
          · skip
            have bd433 : (0 : Int) ≤ zi162.toInt ∧ zi162.toInt ≤ 0 := r_eq_x cn421 bd167 bc_0 (by decide) (by decide)
            refine lv_iconst (v := 1) hx hb dX5_literal_24 (by decide) ?_
            refine lv_goto (tgt := 29) hx hb dX5_literal_25 (by decide) ?_
            exact jn426 1 _ _ ls (b_wid2 bc_1 (by decide) (by decide)) (lv_sub hl [0, 1, 3] rfl) hw hS
  exact lp401 _ hp0 0 0 _ _ ls (lp_in _) ok0 (Fr.rf) (b_wid2 bc_0 (by decide) (by decide)) (b_wid2 bc_0 (by decide) (by decide)) (lv_sub hl [2, 3, 1, 0] rfl) hw hS

set_option maxRecDepth 100000 in
set_option maxHeartbeats 4000000 in
theorem cX5_all_6 (l : Launch) (G : va_G) (cy : Nat → ClassId) (ev : Ew) (K ln : Nat → Nat) (Ls : List Nat) (hW : SW K ln Ls) (sz : Nat) (hp0 : Nat → Nat → Value) (ok0 : Ok K hp0) (qa900 : Nat) (zi901 : Int32) (kd900 : K qa900 = 6) (bd901 : ((0 : Int) ≤ zi901.toInt ∧ zi901.toInt ≤ 0)) : Met l yX5_all (WS yX5_all cX5_all 5 (some .long)) { frames := 21, cells := 0, slots := 0, locals := 509 } (PB2 [.ref qa900, .int zi901] sz G cy ev (va_pl Ls (cellOf cy K ln hp0))) (QBl (S := (Nat → Nat → Value)) (fun (r : Int64) (u : (Nat → Nat → Value)) => Ok K u ∧ Fr [6002, 6003, 6004, 6005, 6006] K hp0 u) G (fun u => va_pl Ls (cellOf cy K ln u)) (va_A (va_pl Ls (cellOf cy K ln hp0)) sz)) 0 0 (va_A (va_pl Ls (cellOf cy K ln hp0)) sz) := by
  refine met_of2 (y := yX5_all) (L := 5) (av := [.ref qa900, .int zi901]) (Qc := fun A => QBl (S := (Nat → Nat → Value)) (fun (r : Int64) (u : (Nat → Nat → Value)) => Ok K u ∧ Fr [6002, 6003, 6004, 6005, 6006] K hp0 u) G (fun u => va_pl Ls (cellOf cy K ln u)) A) (plainFor_of_name (by decide)) (Nat.le_of_ble_eq_true rfl) ?_
  intro p e s m below meth c hsz hx hb hr hml hown hT hlocks hin hK A hA hE hw hS ls hl
  have hw : PW G cy K ln Ls A hp0 s.heap := hw
  have hown : s.vm.findClass "LieClock$Parser" = some m.cls := hown
  have hl : lv_has ls 5 [(0, .ref qa900), (1, .int zi901)] := hl
  obtain ⟨Q, hQ⟩ : ∃ Q : State → Prop, Q = MQ below (QBl (S := (Nat → Nat → Value)) (fun (r : Int64) (u : (Nat → Nat → Value)) => Ok K u ∧ Fr [6002, 6003, 6004, 6005, 6006] K hp0 u) G (fun u => va_pl Ls (cellOf cy K ln u)) A) ([.ref qa900, .int zi901] : List Value).toArray s 0 0 A := ⟨_, rfl⟩
  rw [← hQ]
  refine lv_aload_n hx hb dX5_all_0 rfl (lv_at hl 0 rfl) ?_
  refine lv_iload_n hx hb dX5_all_1 rfl (lv_at hl 1 rfl) ?_
  refine kq_l hw hS hA (va_runV (As := [.int zi901]) (rest := []) ⟨hx, hb, hml, hown, hT⟩ (cX5_literal_6 l G cy ev K ln Ls hW _ hp0 ok0 qa900 zi901 kd900 (b_wid2 bd901 (by decide) (by decide))) (cwV 1 hT (good_V tb_918 tb_915 tb_917 tb_17 tb_109) rfl rfl rfl (by decide +kernel) ⟨Nat.le_of_ble_eq_true rfl, Nat.le_of_ble_eq_true rfl⟩) (pool_preV (ci := 5) hK hE hS hA hw hW kd900 (by decide) rfl) rfl rfl hl.1 rfl (lv_room (Nat.le_of_ble_eq_true rfl)) dX5_all_2 ⟨Nat.le_of_ble_eq_true rfl, Nat.le_of_ble_eq_true rfl⟩) (fun wl5 hp1 H locs hq4 hw hS => ?_)
  obtain ⟨ok2, F3⟩ := hq4
  have hw : PW G cy K ln Ls A hp1 H := hw
  refine lv_lstore_n (lv' := [(2, .long wl5), (0, .ref qa900), (1, .int zi901)]) hx hb dX5_all_5 rfl hl (by decide) rfl (fun ls hl => ?_)
  refine lv_iconst (v := 0) hx hb dX5_all_6 (by decide) ?_
  refine lv_istore (lv' := [(4, .int 0), (2, .long wl5), (0, .ref qa900), (1, .int zi901)]) hx hb dX5_all_7 hl (by decide) rfl (fun ls hl => ?_)
  have jn229 : ∀ (hp226 : Nat → Nat → Value) (wl225 : Int64) (H : Heap) (locs : List Loc) (ls : Array Slot), Ok K hp226 → Fr [6002, 6003, 6004, 6005, 6006] K hp1 hp226 → lv_has ls 5 [(2, .long wl225)] → PW G cy K ln Ls A hp226 H → va_S A s.heap H locs → W p l e ({ frames := 21, cells := 0, slots := 0, locals := 509 } : Room) s m ([.ref qa900, .int zi901] : List Value).toArray below meth c H locs 0 0 Q (F0 m 40 ls []) := by
    intro hp226 wl225 H locs ls ok228 F227 hl hw hS
    refine lv_lload_n hx hb dX5_all_40 rfl (lv_at hl 0 rfl) ?_
    rw [hQ]
    exact kz_l hx hb hr hlocks hS hp226 hw ⟨ok228, (Fr.tr (Fr.tr (Fr.rf) F3 (by decide)) F227 (by decide))⟩ (Nat.le_of_ble_eq_true rfl) (Nat.le_of_ble_eq_true rfl) dX5_all_41
  have lp232 : ∀ (n230 : Nat) (hp163 : Nat → Nat → Value) (wl161 : Int64) (zi162 : Int32) (H : Heap) (locs : List Loc) (ls : Array Slot), 401 - zi162.toInt < (n230 : Int) → Ok K hp163 → Fr [6002, 6003, 6004, 6005, 6006] K hp1 hp163 → ((0 : Int) ≤ zi162.toInt ∧ zi162.toInt ≤ 401) → lv_has ls 5 [(0, .ref qa900), (1, .int zi901), (2, .long wl161), (4, .int zi162)] → PW G cy K ln Ls A hp163 H → va_S A s.heap H locs → W p l e ({ frames := 21, cells := 0, slots := 0, locals := 509 } : Room) s m ([.ref qa900, .int zi901] : List Value).toArray below meth c H locs 0 0 Q (F0 m 9 ls []) := by
    intro n230
    induction n230 with
    | zero =>
      intro hp163 wl161 zi162 H locs ls hm233 ok165 F164 bd166 hl hw hS
      exact absurd hm233 (by have := bd166; omega)
    | succ n230 ih231 =>
      intro hp163 wl161 zi162 H locs ls hm233 ok165 F164 bd166 hl hw hS
      refine lv_iload hx hb dX5_all_9 (lv_at hl 3 rfl) ?_
      refine lv_sipush (v := 400) hx hb dX5_all_11 (by decide) ?_
      refine lv_icmp_gt (tgt := 40) hx hb dX5_all_14 (by decide) (fun cn234 => ?_) (fun cn234 => ?_)
      · skip
        have bd235 : (401 : Int) ≤ zi162.toInt ∧ zi162.toInt ≤ 401 := r_lt_y cn234 bc_400 bd166 (by decide) (by decide)
        exact jn229 hp163 wl161 _ _ ls ok165 (Fr.tr (Fr.rf) F164 (by decide)) (lv_sub hl [2] rfl) hw hS
      · skip
        have bd236 : (0 : Int) ≤ zi162.toInt ∧ zi162.toInt ≤ 400 := r_le_x (Int32.not_lt.mp cn234) bd166 bc_400 (by decide) (by decide)
        refine lv_aload_n hx hb dX5_all_17 rfl (lv_at hl 0 rfl) ?_
        refine lv_bipush (v := 112) hx hb dX5_all_18 (by decide) ?_
        refine kq_i hw hS hA (va_runV (As := [.int 112]) (rest := []) ⟨hx, hb, hml, hown, hT⟩ (cX5_accept_0 l G cy ev K ln Ls hW _ hp163 ok165 qa900 112 kd900) (cwV 1 hT (good_V tb_854 tb_851 tb_853 tb_8 tb_109) rfl rfl rfl (by decide +kernel) ⟨Nat.le_of_ble_eq_true rfl, Nat.le_of_ble_eq_true rfl⟩) (pool_preV (ci := 5) hK hE hS hA hw hW kd900 (by decide) rfl) rfl rfl hl.1 rfl (lv_room (Nat.le_of_ble_eq_true rfl)) dX5_all_20 ⟨Nat.le_of_ble_eq_true rfl, Nat.le_of_ble_eq_true rfl⟩) (fun zi241 hp237 H locs hq240 hw hS => ?_)
        obtain ⟨ok238, F239, bd242, hc243, hc244⟩ := hq240
        have hw : PW G cy K ln Ls A hp237 H := hw
        rcases b01 bd242 with cn245 | cn245
        · skip
          subst cn245
          refine lv_if_eq (tgt := 40) hx hb dX5_all_23 (by decide) (fun _ => ?_) (fun c => absurd (d_eq bc_0 bc_0) c)
          exact jn229 hp237 wl161 _ _ ls ok238 (Fr.tr (Fr.tr (Fr.rf) F164 (by decide)) F239 (by decide)) (lv_sub hl [2] rfl) hw hS
        · skip
          subst cn245
          obtain ⟨zi246, eq247, bd248⟩ := hc243 rfl
          obtain ⟨zi249, eq250, bd251⟩ := hc244 rfl
          refine lv_if_eq (tgt := 40) hx hb dX5_all_23 (by decide) (fun c => absurd c (d_ne bc_1 bc_0 (by decide))) (fun _ => ?_)
          refine lv_lload_n hx hb dX5_all_26 rfl (lv_at hl 2 rfl) ?_
          refine lv_aload_n hx hb dX5_all_27 rfl (lv_at hl 0 rfl) ?_
          refine lv_iload_n hx hb dX5_all_28 rfl (lv_at hl 1 rfl) ?_
          refine kq_l hw hS hA (va_runV (As := [.int zi901]) (rest := [.long wl161]) ⟨hx, hb, hml, hown, hT⟩ (cX5_literal_6 l G cy ev K ln Ls hW _ hp237 ok238 qa900 zi901 kd900 (b_wid2 bd901 (by decide) (by decide))) (cwV 1 hT (good_V tb_918 tb_915 tb_917 tb_17 tb_109) rfl rfl rfl (by decide +kernel) ⟨Nat.le_of_ble_eq_true rfl, Nat.le_of_ble_eq_true rfl⟩) (pool_preV (ci := 5) hK hE hS hA hw hW kd900 (by decide) rfl) rfl rfl hl.1 rfl (lv_room (Nat.le_of_ble_eq_true rfl)) dX5_all_29 ⟨Nat.le_of_ble_eq_true rfl, Nat.le_of_ble_eq_true rfl⟩) (fun wl256 hp252 H locs hq255 hw hS => ?_)
          obtain ⟨ok253, F254⟩ := hq255
          have hw : PW G cy K ln Ls A hp252 H := hw
          refine lv_land hx hb dX5_all_32 (lv_topl (fun wl257 _ => ?_))
          refine lv_lstore_n (lv' := [(2, .long wl257), (0, .ref qa900), (1, .int zi901), (4, .int zi162)]) hx hb dX5_all_33 rfl hl (by decide) rfl (fun ls hl => ?_)
          obtain ⟨zi258, ea259⟩ : ∃ z : Int32, z = zi162 + 1 := ⟨_, rfl⟩
          have bd260 : (1 : Int) ≤ zi258.toInt ∧ zi258.toInt ≤ 401 := b_iadd ea259 bd236 bc_1 (by decide) (by decide) (by decide) (by decide)
          have qe261 : zi258.toInt = (zi162 : Int32).toInt + (1 : Int32).toInt := e_iadd ea259 bd236 bc_1 (by decide) (by decide)
          have qe262 : zi258.toInt = zi162.toInt + 1 := by have ha : (1 : Int32).toInt = 1 := (by decide); rw [ha] at qe261; exact qe261
          refine lv_iinc (v := zi258) (lv' := [(4, .int zi258), (2, .long wl257), (0, .ref qa900), (1, .int zi901)]) hx hb dX5_all_34 hl (k := 3) rfl ea259.symm (by decide) rfl (fun ls hl => ?_)
          refine lv_goto (tgt := 9) hx hb dX5_all_37 (by decide) ?_
          exact ih231 hp252 wl257 zi258 _ _ ls (by have := hm233; have := qe262; omega) ok253 (Fr.tr (Fr.tr (Fr.tr (Fr.rf) F164 (by decide)) F239 (by decide)) F254 (by decide)) (b_wid2 bd260 (by decide) (by decide)) (lv_sub hl [2, 3, 1, 0] rfl) hw hS
  exact lp232 _ hp1 wl5 0 _ _ ls (lp_in _) ok2 (Fr.rf) (b_wid2 bc_0 (by decide) (by decide)) (lv_sub hl [2, 3, 1, 0] rfl) hw hS

set_option maxRecDepth 100000 in
set_option maxHeartbeats 4000000 in
theorem cX5_cond_6 (l : Launch) (G : va_G) (cy : Nat → ClassId) (ev : Ew) (K ln : Nat → Nat) (Ls : List Nat) (hW : SW K ln Ls) (sz : Nat) (hp0 : Nat → Nat → Value) (ok0 : Ok K hp0) (qa900 : Nat) (zi901 : Int32) (kd900 : K qa900 = 6) (bd901 : ((0 : Int) ≤ zi901.toInt ∧ zi901.toInt ≤ 0)) : Met l yX5_cond (WS yX5_cond cX5_cond 5 (some .long)) { frames := 22, cells := 0, slots := 0, locals := 533 } (PB2 [.ref qa900, .int zi901] sz G cy ev (va_pl Ls (cellOf cy K ln hp0))) (QBl (S := (Nat → Nat → Value)) (fun (r : Int64) (u : (Nat → Nat → Value)) => Ok K u ∧ Fr [6002, 6003, 6004, 6005, 6006] K hp0 u) G (fun u => va_pl Ls (cellOf cy K ln u)) (va_A (va_pl Ls (cellOf cy K ln hp0)) sz)) 0 0 (va_A (va_pl Ls (cellOf cy K ln hp0)) sz) := by
  refine met_of2 (y := yX5_cond) (L := 5) (av := [.ref qa900, .int zi901]) (Qc := fun A => QBl (S := (Nat → Nat → Value)) (fun (r : Int64) (u : (Nat → Nat → Value)) => Ok K u ∧ Fr [6002, 6003, 6004, 6005, 6006] K hp0 u) G (fun u => va_pl Ls (cellOf cy K ln u)) A) (plainFor_of_name (by decide)) (Nat.le_of_ble_eq_true rfl) ?_
  intro p e s m below meth c hsz hx hb hr hml hown hT hlocks hin hK A hA hE hw hS ls hl
  have hw : PW G cy K ln Ls A hp0 s.heap := hw
  have hown : s.vm.findClass "LieClock$Parser" = some m.cls := hown
  have hl : lv_has ls 5 [(0, .ref qa900), (1, .int zi901)] := hl
  obtain ⟨Q, hQ⟩ : ∃ Q : State → Prop, Q = MQ below (QBl (S := (Nat → Nat → Value)) (fun (r : Int64) (u : (Nat → Nat → Value)) => Ok K u ∧ Fr [6002, 6003, 6004, 6005, 6006] K hp0 u) G (fun u => va_pl Ls (cellOf cy K ln u)) A) ([.ref qa900, .int zi901] : List Value).toArray s 0 0 A := ⟨_, rfl⟩
  rw [← hQ]
  refine lv_aload_n hx hb dX5_cond_0 rfl (lv_at hl 0 rfl) ?_
  refine lv_iload_n hx hb dX5_cond_1 rfl (lv_at hl 1 rfl) ?_
  refine kq_l hw hS hA (va_runV (As := [.int zi901]) (rest := []) ⟨hx, hb, hml, hown, hT⟩ (cX5_all_6 l G cy ev K ln Ls hW _ hp0 ok0 qa900 zi901 kd900 (b_wid2 bd901 (by decide) (by decide))) (cwV 1 hT (good_V tb_914 tb_911 tb_913 tb_16 tb_109) rfl rfl rfl (by decide +kernel) ⟨Nat.le_of_ble_eq_true rfl, Nat.le_of_ble_eq_true rfl⟩) (pool_preV (ci := 5) hK hE hS hA hw hW kd900 (by decide) rfl) rfl rfl hl.1 rfl (lv_room (Nat.le_of_ble_eq_true rfl)) dX5_cond_2 ⟨Nat.le_of_ble_eq_true rfl, Nat.le_of_ble_eq_true rfl⟩) (fun wl5 hp1 H locs hq4 hw hS => ?_)
  obtain ⟨ok2, F3⟩ := hq4
  have hw : PW G cy K ln Ls A hp1 H := hw
  refine lv_lstore_n (lv' := [(2, .long wl5), (0, .ref qa900), (1, .int zi901)]) hx hb dX5_cond_5 rfl hl (by decide) rfl (fun ls hl => ?_)
  refine lv_iconst (v := 0) hx hb dX5_cond_6 (by decide) ?_
  refine lv_istore (lv' := [(4, .int 0), (2, .long wl5), (0, .ref qa900), (1, .int zi901)]) hx hb dX5_cond_7 hl (by decide) rfl (fun ls hl => ?_)
  have jn229 : ∀ (hp226 : Nat → Nat → Value) (wl225 : Int64) (H : Heap) (locs : List Loc) (ls : Array Slot), Ok K hp226 → Fr [6002, 6003, 6004, 6005, 6006] K hp1 hp226 → lv_has ls 5 [(2, .long wl225)] → PW G cy K ln Ls A hp226 H → va_S A s.heap H locs → W p l e ({ frames := 22, cells := 0, slots := 0, locals := 533 } : Room) s m ([.ref qa900, .int zi901] : List Value).toArray below meth c H locs 0 0 Q (F0 m 40 ls []) := by
    intro hp226 wl225 H locs ls ok228 F227 hl hw hS
    refine lv_lload_n hx hb dX5_cond_40 rfl (lv_at hl 0 rfl) ?_
    rw [hQ]
    exact kz_l hx hb hr hlocks hS hp226 hw ⟨ok228, (Fr.tr (Fr.tr (Fr.rf) F3 (by decide)) F227 (by decide))⟩ (Nat.le_of_ble_eq_true rfl) (Nat.le_of_ble_eq_true rfl) dX5_cond_41
  have lp232 : ∀ (n230 : Nat) (hp163 : Nat → Nat → Value) (wl161 : Int64) (zi162 : Int32) (H : Heap) (locs : List Loc) (ls : Array Slot), 401 - zi162.toInt < (n230 : Int) → Ok K hp163 → Fr [6002, 6003, 6004, 6005, 6006] K hp1 hp163 → ((0 : Int) ≤ zi162.toInt ∧ zi162.toInt ≤ 401) → lv_has ls 5 [(0, .ref qa900), (1, .int zi901), (2, .long wl161), (4, .int zi162)] → PW G cy K ln Ls A hp163 H → va_S A s.heap H locs → W p l e ({ frames := 22, cells := 0, slots := 0, locals := 533 } : Room) s m ([.ref qa900, .int zi901] : List Value).toArray below meth c H locs 0 0 Q (F0 m 9 ls []) := by
    intro n230
    induction n230 with
    | zero =>
      intro hp163 wl161 zi162 H locs ls hm233 ok165 F164 bd166 hl hw hS
      exact absurd hm233 (by have := bd166; omega)
    | succ n230 ih231 =>
      intro hp163 wl161 zi162 H locs ls hm233 ok165 F164 bd166 hl hw hS
      refine lv_iload hx hb dX5_cond_9 (lv_at hl 3 rfl) ?_
      refine lv_sipush (v := 400) hx hb dX5_cond_11 (by decide) ?_
      refine lv_icmp_gt (tgt := 40) hx hb dX5_cond_14 (by decide) (fun cn234 => ?_) (fun cn234 => ?_)
      · skip
        have bd235 : (401 : Int) ≤ zi162.toInt ∧ zi162.toInt ≤ 401 := r_lt_y cn234 bc_400 bd166 (by decide) (by decide)
        exact jn229 hp163 wl161 _ _ ls ok165 (Fr.tr (Fr.rf) F164 (by decide)) (lv_sub hl [2] rfl) hw hS
      · skip
        have bd236 : (0 : Int) ≤ zi162.toInt ∧ zi162.toInt ≤ 400 := r_le_x (Int32.not_lt.mp cn234) bd166 bc_400 (by decide) (by decide)
        refine lv_aload_n hx hb dX5_cond_17 rfl (lv_at hl 0 rfl) ?_
        refine lv_bipush (v := 111) hx hb dX5_cond_18 (by decide) ?_
        refine kq_i hw hS hA (va_runV (As := [.int 111]) (rest := []) ⟨hx, hb, hml, hown, hT⟩ (cX5_accept_0 l G cy ev K ln Ls hW _ hp163 ok165 qa900 111 kd900) (cwV 1 hT (good_V tb_854 tb_851 tb_853 tb_8 tb_109) rfl rfl rfl (by decide +kernel) ⟨Nat.le_of_ble_eq_true rfl, Nat.le_of_ble_eq_true rfl⟩) (pool_preV (ci := 5) hK hE hS hA hw hW kd900 (by decide) rfl) rfl rfl hl.1 rfl (lv_room (Nat.le_of_ble_eq_true rfl)) dX5_cond_20 ⟨Nat.le_of_ble_eq_true rfl, Nat.le_of_ble_eq_true rfl⟩) (fun zi241 hp237 H locs hq240 hw hS => ?_)
        obtain ⟨ok238, F239, bd242, hc243, hc244⟩ := hq240
        have hw : PW G cy K ln Ls A hp237 H := hw
        rcases b01 bd242 with cn245 | cn245
        · skip
          subst cn245
          refine lv_if_eq (tgt := 40) hx hb dX5_cond_23 (by decide) (fun _ => ?_) (fun c => absurd (d_eq bc_0 bc_0) c)
          exact jn229 hp237 wl161 _ _ ls ok238 (Fr.tr (Fr.tr (Fr.rf) F164 (by decide)) F239 (by decide)) (lv_sub hl [2] rfl) hw hS
        · skip
          subst cn245
          obtain ⟨zi246, eq247, bd248⟩ := hc243 rfl
          obtain ⟨zi249, eq250, bd251⟩ := hc244 rfl
          refine lv_if_eq (tgt := 40) hx hb dX5_cond_23 (by decide) (fun c => absurd c (d_ne bc_1 bc_0 (by decide))) (fun _ => ?_)
          refine lv_lload_n hx hb dX5_cond_26 rfl (lv_at hl 2 rfl) ?_
          refine lv_aload_n hx hb dX5_cond_27 rfl (lv_at hl 0 rfl) ?_
          refine lv_iload_n hx hb dX5_cond_28 rfl (lv_at hl 1 rfl) ?_
          refine kq_l hw hS hA (va_runV (As := [.int zi901]) (rest := [.long wl161]) ⟨hx, hb, hml, hown, hT⟩ (cX5_all_6 l G cy ev K ln Ls hW _ hp237 ok238 qa900 zi901 kd900 (b_wid2 bd901 (by decide) (by decide))) (cwV 1 hT (good_V tb_914 tb_911 tb_913 tb_16 tb_109) rfl rfl rfl (by decide +kernel) ⟨Nat.le_of_ble_eq_true rfl, Nat.le_of_ble_eq_true rfl⟩) (pool_preV (ci := 5) hK hE hS hA hw hW kd900 (by decide) rfl) rfl rfl hl.1 rfl (lv_room (Nat.le_of_ble_eq_true rfl)) dX5_cond_29 ⟨Nat.le_of_ble_eq_true rfl, Nat.le_of_ble_eq_true rfl⟩) (fun wl256 hp252 H locs hq255 hw hS => ?_)
          obtain ⟨ok253, F254⟩ := hq255
          have hw : PW G cy K ln Ls A hp252 H := hw
          refine lv_lor hx hb dX5_cond_32 (lv_topl (fun wl257 _ => ?_))
          refine lv_lstore_n (lv' := [(2, .long wl257), (0, .ref qa900), (1, .int zi901), (4, .int zi162)]) hx hb dX5_cond_33 rfl hl (by decide) rfl (fun ls hl => ?_)
          obtain ⟨zi258, ea259⟩ : ∃ z : Int32, z = zi162 + 1 := ⟨_, rfl⟩
          have bd260 : (1 : Int) ≤ zi258.toInt ∧ zi258.toInt ≤ 401 := b_iadd ea259 bd236 bc_1 (by decide) (by decide) (by decide) (by decide)
          have qe261 : zi258.toInt = (zi162 : Int32).toInt + (1 : Int32).toInt := e_iadd ea259 bd236 bc_1 (by decide) (by decide)
          have qe262 : zi258.toInt = zi162.toInt + 1 := by have ha : (1 : Int32).toInt = 1 := (by decide); rw [ha] at qe261; exact qe261
          refine lv_iinc (v := zi258) (lv' := [(4, .int zi258), (2, .long wl257), (0, .ref qa900), (1, .int zi901)]) hx hb dX5_cond_34 hl (k := 3) rfl ea259.symm (by decide) rfl (fun ls hl => ?_)
          refine lv_goto (tgt := 9) hx hb dX5_cond_37 (by decide) ?_
          exact ih231 hp252 wl257 zi258 _ _ ls (by have := hm233; have := qe262; omega) ok253 (Fr.tr (Fr.tr (Fr.tr (Fr.rf) F164 (by decide)) F239 (by decide)) F254 (by decide)) (b_wid2 bd260 (by decide) (by decide)) (lv_sub hl [2, 3, 1, 0] rfl) hw hS
  exact lp232 _ hp1 wl5 0 _ _ ls (lp_in _) ok2 (Fr.rf) (b_wid2 bc_0 (by decide) (by decide)) (lv_sub hl [2, 3, 1, 0] rfl) hw hS

set_option maxRecDepth 100000 in
set_option maxHeartbeats 4000000 in
theorem cX5_tellWord_0 (l : Launch) (G : va_G) (cy : Nat → ClassId) (ev : Ew) (K ln : Nat → Nat) (Ls : List Nat) (hW : SW K ln Ls) (sz : Nat) (hp0 : Nat → Nat → Value) (ok0 : Ok K hp0) (qa900 : Nat) (kd900 : K qa900 = 6) : Met l yX5_tellWord (WS yX5_tellWord cX5_tellWord 5 none) { frames := 23, cells := 0, slots := 0, locals := 557 } (PB2 [.ref qa900] sz G cy ev (va_pl Ls (cellOf cy K ln hp0))) (QBv (S := (Nat → Nat → Value)) (fun u : (Nat → Nat → Value) => Ok K u ∧ Fr [6002, 6003, 6004, 6005, 6006, 11004, 11005, 50000, 51000, 52000] K hp0 u) G (fun u => va_pl Ls (cellOf cy K ln u)) (va_A (va_pl Ls (cellOf cy K ln hp0)) sz)) 0 0 (va_A (va_pl Ls (cellOf cy K ln hp0)) sz) := by
  refine met_of2 (y := yX5_tellWord) (L := 5) (av := [.ref qa900]) (Qc := fun A => QBv (S := (Nat → Nat → Value)) (fun u : (Nat → Nat → Value) => Ok K u ∧ Fr [6002, 6003, 6004, 6005, 6006, 11004, 11005, 50000, 51000, 52000] K hp0 u) G (fun u => va_pl Ls (cellOf cy K ln u)) A) (plainFor_of_name (by decide)) (Nat.le_of_ble_eq_true rfl) ?_
  intro p e s m below meth c hsz hx hb hr hml hown hT hlocks hin hK A hA hE hw hS ls hl
  have hw : PW G cy K ln Ls A hp0 s.heap := hw
  have hown : s.vm.findClass "LieClock$Parser" = some m.cls := hown
  have hl : lv_has ls 5 [(0, .ref qa900)] := hl
  obtain ⟨Q, hQ⟩ : ∃ Q : State → Prop, Q = MQ below (QBv (S := (Nat → Nat → Value)) (fun u : (Nat → Nat → Value) => Ok K u ∧ Fr [6002, 6003, 6004, 6005, 6006, 11004, 11005, 50000, 51000, 52000] K hp0 u) G (fun u => va_pl Ls (cellOf cy K ln u)) A) ([.ref qa900] : List Value).toArray s 0 0 A := ⟨_, rfl⟩
  rw [← hQ]
  refine lv_aload_n hx hb dX5_tellWord_0 rfl (lv_at hl 0 rfl) ?_
  refine lv_aload_n hx hb dX5_tellWord_1 rfl (lv_at hl 0 rfl) ?_
  obtain ⟨qa2, eq1, kd3⟩ := rd_6001 ok0 kd900
  refine p_get (ci := 5) (v := .ref qa2) (C := RX5) (T := TX5) (N := 7) hx hb hT iw_X5 hown hK hw hW kd900 (by decide) rfl rfl 1 (by decide) eq1 (hT _ tb_372) (fun _ h9 => h9) dX5_tellWord_2 ?_
  obtain ⟨zi5, eq4, bd6⟩ := rd_11004 ok0 kd3
  refine p_getN (ci := 10) (v := .int zi5) (C := RX10) (T := TX10) (N := 20) hx hb hT iw_X10 hown hK hw hW kd3 (by decide) rfl rfl 4 (by decide) eq4 (hK.fl nw_99) (fun _ h9 => h9) dX5_tellWord_5 ?_
  refine lv_bipush (v := 16) hx hb dX5_tellWord_8 (by decide) ?_
  refine kq_v hw hS hA (va_runV (As := [.int zi5, .int 16]) (rest := []) ⟨hx, hb, hml, hown, hT⟩ (cX5_begin_0 l G cy ev K ln Ls hW _ hp0 ok0 qa900 zi5 16 kd900) (cwV 2 hT (good_V tb_846 tb_843 tb_845 tb_6 tb_109) rfl rfl rfl (by decide +kernel) ⟨Nat.le_of_ble_eq_true rfl, Nat.le_of_ble_eq_true rfl⟩) (pool_preV (ci := 5) hK hE hS hA hw hW kd900 (by decide) rfl) rfl rfl hl.1 rfl (lv_room (Nat.le_of_ble_eq_true rfl)) dX5_tellWord_10 ⟨Nat.le_of_ble_eq_true rfl, Nat.le_of_ble_eq_true rfl⟩) (fun hp7 H locs hq10 hw hS => ?_)
  obtain ⟨ok8, F9⟩ := hq10
  have hw : PW G cy K ln Ls A hp7 H := hw
  refine lv_aload_n hx hb dX5_tellWord_13 rfl (lv_at hl 0 rfl) ?_
  have eq12 : hp7 qa900 1 = .ref qa2 := Eq.trans (Fr.at (cq := 6001) F9 kd900 (cd_o (by decide)) (by decide)) eq1
  refine p_get (ci := 5) (v := .ref qa2) (C := RX5) (T := TX5) (N := 7) hx hb hT iw_X5 hown hK hw hW kd900 (by decide) rfl rfl 1 (by decide) eq12 (hT _ tb_372) (fun _ h9 => h9) dX5_tellWord_14 ?_
  refine lv_aload_n hx hb dX5_tellWord_17 rfl (lv_at hl 0 rfl) ?_
  refine lv_iconst (v := 2) hx hb dX5_tellWord_18 (by decide) ?_
  refine kq_l hw hS hA (va_runV (As := [.int 2]) (rest := [.ref qa2]) ⟨hx, hb, hml, hown, hT⟩ (cX5_take_0 l G cy ev K ln Ls hW _ hp7 ok8 qa900 2 kd900) (cwV 1 hT (good_V tb_862 tb_859 tb_861 tb_10 tb_109) rfl rfl rfl (by decide +kernel) ⟨Nat.le_of_ble_eq_true rfl, Nat.le_of_ble_eq_true rfl⟩) (pool_preV (ci := 5) hK hE hS hA hw hW kd900 (by decide) rfl) rfl rfl hl.1 rfl (lv_room (Nat.le_of_ble_eq_true rfl)) dX5_tellWord_19 ⟨Nat.le_of_ble_eq_true rfl, Nat.le_of_ble_eq_true rfl⟩) (fun wl17 hp13 H locs hq16 hw hS => ?_)
  obtain ⟨ok14, F15⟩ := hq16
  have hw : PW G cy K ln Ls A hp13 H := hw
  refine kq_i hw hS hA (va_runV (As := [.long wl17]) (rest := []) ⟨hx, hb, hml, hown, hT⟩ (cX10_witnessNamed_0 l G cy ev K ln Ls hW _ hp13 ok14 qa2 wl17 kd3) (cwV 1 hT (good_V tb_877 tb_906 tb_875 tb_876 tb_107) rfl rfl rfl (by decide +kernel) ⟨Nat.le_of_ble_eq_true rfl, Nat.le_of_ble_eq_true rfl⟩) (pool_preV (ci := 10) hK hE hS hA hw hW kd3 (by decide) rfl) rfl rfl hl.1 rfl (lv_room (Nat.le_of_ble_eq_true rfl)) dX5_tellWord_22 ⟨Nat.le_of_ble_eq_true rfl, Nat.le_of_ble_eq_true rfl⟩) (fun zi22 hp18 H locs hq21 hw hS => ?_)
  obtain ⟨ok19, F20, bd23⟩ := hq21
  obtain rfl : hp13 = hp18 := (Fr.nil F20).symm
  have hw : PW G cy K ln Ls A hp13 H := hw
  refine lv_istore_n (lv' := [(1, .int zi22), (0, .ref qa900)]) hx hb dX5_tellWord_25 rfl hl (by decide) rfl (fun ls hl => ?_)
  refine lv_iload_n hx hb dX5_tellWord_26 rfl (lv_at hl 0 rfl) ?_
  have jn35 : ∀ (hp32 : Nat → Nat → Value)  (H : Heap) (locs : List Loc) (ls : Array Slot), Ok K hp32 → Fr [6005, 6006] K hp13 hp32 → lv_has ls 5 [(0, .ref qa900), (1, .int zi22)] → PW G cy K ln Ls A hp32 H → va_S A s.heap H locs → W p l e ({ frames := 23, cells := 0, slots := 0, locals := 557 } : Room) s m ([.ref qa900] : List Value).toArray below meth c H locs 0 0 Q (F0 m 35 ls []) := by
    intro hp32 H locs ls ok34 F33 hl hw hS
    refine lv_aload_n hx hb dX5_tellWord_35 rfl (lv_at hl 0 rfl) ?_
    refine lv_bipush (v := 106) hx hb dX5_tellWord_36 (by decide) ?_
    refine kq_i hw hS hA (va_runV (As := [.int 106]) (rest := []) ⟨hx, hb, hml, hown, hT⟩ (cX5_accept_0 l G cy ev K ln Ls hW _ hp32 ok34 qa900 106 kd900) (cwV 1 hT (good_V tb_854 tb_851 tb_853 tb_8 tb_109) rfl rfl rfl (by decide +kernel) ⟨Nat.le_of_ble_eq_true rfl, Nat.le_of_ble_eq_true rfl⟩) (pool_preV (ci := 5) hK hE hS hA hw hW kd900 (by decide) rfl) rfl rfl hl.1 rfl (lv_room (Nat.le_of_ble_eq_true rfl)) dX5_tellWord_38 ⟨Nat.le_of_ble_eq_true rfl, Nat.le_of_ble_eq_true rfl⟩) (fun zi40 hp36 H locs hq39 hw hS => ?_)
    obtain ⟨ok37, F38, bd41, hc42, hc43⟩ := hq39
    have hw : PW G cy K ln Ls A hp36 H := hw
    refine lv_istore_n (lv' := [(2, .int zi40), (0, .ref qa900), (1, .int zi22)]) hx hb dX5_tellWord_41 rfl hl (by decide) rfl (fun ls hl => ?_)
    refine lv_aload_n hx hb dX5_tellWord_42 rfl (lv_at hl 1 rfl) ?_
    refine lv_bipush (v := 61) hx hb dX5_tellWord_43 (by decide) ?_
    refine kq_v hw hS hA (va_runV (As := [.int 61]) (rest := []) ⟨hx, hb, hml, hown, hT⟩ (cX5_expect_0 l G cy ev K ln Ls hW _ hp36 ok37 qa900 61 kd900) (cwV 1 hT (good_V tb_889 tb_886 tb_888 tb_12 tb_109) rfl rfl rfl (by decide +kernel) ⟨Nat.le_of_ble_eq_true rfl, Nat.le_of_ble_eq_true rfl⟩) (pool_preV (ci := 5) hK hE hS hA hw hW kd900 (by decide) rfl) rfl rfl hl.1 rfl (lv_room (Nat.le_of_ble_eq_true rfl)) dX5_tellWord_45 ⟨Nat.le_of_ble_eq_true rfl, Nat.le_of_ble_eq_true rfl⟩) (fun hp44 H locs hq47 hw hS => ?_)
    obtain ⟨ok45, F46⟩ := hq47
    have hw : PW G cy K ln Ls A hp44 H := hw
    refine lv_aload_n hx hb dX5_tellWord_48 rfl (lv_at hl 1 rfl) ?_
    refine lv_iconst (v := 0) hx hb dX5_tellWord_49 (by decide) ?_
    refine kq_l hw hS hA (va_runV (As := [.int 0]) (rest := []) ⟨hx, hb, hml, hown, hT⟩ (cX5_cond_6 l G cy ev K ln Ls hW _ hp44 ok45 qa900 0 kd900 (b_wid2 bc_0 (by decide) (by decide))) (cwV 1 hT (good_V tb_910 tb_907 tb_909 tb_15 tb_109) rfl rfl rfl (by decide +kernel) ⟨Nat.le_of_ble_eq_true rfl, Nat.le_of_ble_eq_true rfl⟩) (pool_preV (ci := 5) hK hE hS hA hw hW kd900 (by decide) rfl) rfl rfl hl.1 rfl (lv_room (Nat.le_of_ble_eq_true rfl)) dX5_tellWord_50 ⟨Nat.le_of_ble_eq_true rfl, Nat.le_of_ble_eq_true rfl⟩) (fun wl53 hp49 H locs hq52 hw hS => ?_)
    obtain ⟨ok50, F51⟩ := hq52
    have hw : PW G cy K ln Ls A hp49 H := hw
    refine lv_lstore_n (lv' := [(3, .long wl53), (2, .int zi40), (0, .ref qa900), (1, .int zi22)]) hx hb dX5_tellWord_53 rfl hl (by decide) rfl (fun ls hl => ?_)
    refine lv_aload_n hx hb dX5_tellWord_54 rfl (lv_at hl 2 rfl) ?_
    refine lv_bipush (v := 59) hx hb dX5_tellWord_55 (by decide) ?_
    refine kq_v hw hS hA (va_runV (As := [.int 59]) (rest := []) ⟨hx, hb, hml, hown, hT⟩ (cX5_expect_0 l G cy ev K ln Ls hW _ hp49 ok50 qa900 59 kd900) (cwV 1 hT (good_V tb_889 tb_886 tb_888 tb_12 tb_109) rfl rfl rfl (by decide +kernel) ⟨Nat.le_of_ble_eq_true rfl, Nat.le_of_ble_eq_true rfl⟩) (pool_preV (ci := 5) hK hE hS hA hw hW kd900 (by decide) rfl) rfl rfl hl.1 rfl (lv_room (Nat.le_of_ble_eq_true rfl)) dX5_tellWord_57 ⟨Nat.le_of_ble_eq_true rfl, Nat.le_of_ble_eq_true rfl⟩) (fun hp54 H locs hq57 hw hS => ?_)
    obtain ⟨ok55, F56⟩ := hq57
    have hw : PW G cy K ln Ls A hp54 H := hw
    refine lv_aload_n hx hb dX5_tellWord_60 rfl (lv_at hl 2 rfl) ?_
    obtain ⟨zi60, eq59, bd61⟩ := rd_6004 ok55 kd900
    refine p_get (ci := 5) (v := .int zi60) (C := RX5) (T := TX5) (N := 7) hx hb hT iw_X5 hown hK hw hW kd900 (by decide) rfl rfl 4 (by decide) eq59 (hT _ tb_375) (fun _ h9 => h9) dX5_tellWord_61 ?_
    refine lv_if_ne (tgt := 77) hx hb dX5_tellWord_64 (by decide) (fun cn62 => ?_) (fun cn62 => ?_)
    · skip
      have bd63 : (1 : Int) ≤ zi60.toInt ∧ zi60.toInt ≤ 2 := r_ne_lo cn62 bd61 (toi bc_0) (by decide) (by decide)
      rw [hQ]
      exact kz_v hx hb hr hlocks hS hp54 hw ⟨ok55, (Fr.tr (Fr.tr (Fr.tr (Fr.tr (Fr.tr (Fr.tr (Fr.tr (Fr.rf) F9 (by decide)) F15 (by decide)) F33 (by decide)) F38 (by decide)) F46 (by decide)) F51 (by decide)) F56 (by decide))⟩ (Nat.le_of_ble_eq_true rfl) (Nat.le_of_ble_eq_true rfl) dX5_tellWord_77
    · skip
      have bd64 : (0 : Int) ≤ zi60.toInt ∧ zi60.toInt ≤ 0 := r_eq_x cn62 bd61 bc_0 (by decide) (by decide)
      refine lv_aload_n hx hb dX5_tellWord_67 rfl (lv_at hl 2 rfl) ?_
      have eq65 : hp54 qa900 1 = .ref qa2 := Eq.trans (Fr.at (cq := 6001) F56 kd900 (cd_o (by decide)) (by decide)) (Eq.trans (Fr.at (cq := 6001) F51 kd900 (cd_o (by decide)) (by decide)) (Eq.trans (Fr.at (cq := 6001) F46 kd900 (cd_o (by decide)) (by decide)) (Eq.trans (Fr.at (cq := 6001) F38 kd900 (cd_o (by decide)) (by decide)) (Eq.trans (Fr.at (cq := 6001) F33 kd900 (cd_o (by decide)) (by decide)) (Eq.trans (Fr.at (cq := 6001) F15 kd900 (cd_o (by decide)) (by decide)) eq12)))))
      refine p_get (ci := 5) (v := .ref qa2) (C := RX5) (T := TX5) (N := 7) hx hb hT iw_X5 hown hK hw hW kd900 (by decide) rfl rfl 1 (by decide) eq65 (hT _ tb_372) (fun _ h9 => h9) dX5_tellWord_68 ?_
      refine lv_iload_n hx hb dX5_tellWord_71 rfl (lv_at hl 3 rfl) ?_
      refine lv_iload_n hx hb dX5_tellWord_72 rfl (lv_at hl 1 rfl) ?_
      refine lv_lload_n hx hb dX5_tellWord_73 rfl (lv_at hl 0 rfl) ?_
      refine kq_v hw hS hA (va_runV (As := [.int zi22, .int zi40, .long wl53]) (rest := []) ⟨hx, hb, hml, hown, hT⟩ (cX10_addWord_0 l G cy ev K ln Ls hW _ hp54 ok55 qa2 zi22 zi40 wl53 kd3 (b_wid2 bd41 (by decide) (by decide))) (cwV 3 hT (good_V tb_929 tb_926 tb_927 tb_928 tb_107) rfl rfl rfl (by decide +kernel) ⟨Nat.le_of_ble_eq_true rfl, Nat.le_of_ble_eq_true rfl⟩) (pool_preV (ci := 10) hK hE hS hA hw hW kd3 (by decide) rfl) rfl rfl hl.1 rfl (lv_room (Nat.le_of_ble_eq_true rfl)) dX5_tellWord_74 ⟨Nat.le_of_ble_eq_true rfl, Nat.le_of_ble_eq_true rfl⟩) (fun hp66 H locs hq69 hw hS => ?_)
      obtain ⟨ok67, F68⟩ := hq69
      have hw : PW G cy K ln Ls A hp66 H := hw
      rw [hQ]
      exact kz_v hx hb hr hlocks hS hp66 hw ⟨ok67, (Fr.tr (Fr.tr (Fr.tr (Fr.tr (Fr.tr (Fr.tr (Fr.tr (Fr.tr (Fr.rf) F9 (by decide)) F15 (by decide)) F33 (by decide)) F38 (by decide)) F46 (by decide)) F51 (by decide)) F56 (by decide)) F68 (by decide))⟩ (Nat.le_of_ble_eq_true rfl) (Nat.le_of_ble_eq_true rfl) dX5_tellWord_77
  refine lv_if_ge (tgt := 35) hx hb dX5_tellWord_27 (by decide) (fun cn24 => ?_) (fun cn24 => ?_)
  · skip
    have bd71 : (0 : Int) ≤ zi22.toInt ∧ zi22.toInt ≤ 5 := r_le_y cn24 bc_0 bd23 (by decide) (by decide)
    exact jn35 hp13 _ _ ls ok14 (Fr.rf) (lv_sub hl [1, 0] rfl) hw hS
  · skip
    have bd72 : (-1 : Int) ≤ zi22.toInt ∧ zi22.toInt ≤ -1 := r_lt_x (Int32.not_le.mp cn24) bd23 bc_0 (by decide) (by decide)
    refine lv_aload_n hx hb dX5_tellWord_30 rfl (lv_at hl 1 rfl) ?_
    refine lv_iconst (v := 4) hx hb dX5_tellWord_31 (by decide) ?_
    refine kq_v hw hS hA (va_runV (As := [.int 4]) (rest := []) ⟨hx, hb, hml, hown, hT⟩ (cX5_failSoftly_0 l G cy ev K ln Ls hW _ hp13 ok14 qa900 4 kd900) (cwV 1 hT (good_V tb_881 tb_878 tb_880 tb_11 tb_109) rfl rfl rfl (by decide +kernel) ⟨Nat.le_of_ble_eq_true rfl, Nat.le_of_ble_eq_true rfl⟩) (pool_preV (ci := 5) hK hE hS hA hw hW kd900 (by decide) rfl) rfl rfl hl.1 rfl (lv_room (Nat.le_of_ble_eq_true rfl)) dX5_tellWord_32 ⟨Nat.le_of_ble_eq_true rfl, Nat.le_of_ble_eq_true rfl⟩) (fun hp73 H locs hq76 hw hS => ?_)
    obtain ⟨ok74, F75⟩ := hq76
    have hw : PW G cy K ln Ls A hp73 H := hw
    exact jn35 hp73 _ _ ls ok74 (Fr.tr (Fr.rf) F75 (by decide)) (lv_sub hl [1, 0] rfl) hw hS

set_option maxRecDepth 100000 in
set_option maxHeartbeats 4000000 in
theorem cX5_takeMinute_0 (l : Launch) (G : va_G) (cy : Nat → ClassId) (ev : Ew) (K ln : Nat → Nat) (Ls : List Nat) (hW : SW K ln Ls) (sz : Nat) (hp0 : Nat → Nat → Value) (ok0 : Ok K hp0) (qa900 : Nat) (kd900 : K qa900 = 6) : Met l yX5_takeMinute (WS yX5_takeMinute cX5_takeMinute 2 (some .int)) { frames := 2, cells := 0, slots := 0, locals := 42 } (PB2 [.ref qa900] sz G cy ev (va_pl Ls (cellOf cy K ln hp0))) (QBi (S := (Nat → Nat → Value)) (fun (r : Int32) (u : (Nat → Nat → Value)) => Ok K u ∧ Fr [6002, 6003, 6004, 6005, 6006] K hp0 u) G (fun u => va_pl Ls (cellOf cy K ln u)) (va_A (va_pl Ls (cellOf cy K ln hp0)) sz)) 0 0 (va_A (va_pl Ls (cellOf cy K ln hp0)) sz) := by
  refine met_of2 (y := yX5_takeMinute) (L := 2) (av := [.ref qa900]) (Qc := fun A => QBi (S := (Nat → Nat → Value)) (fun (r : Int32) (u : (Nat → Nat → Value)) => Ok K u ∧ Fr [6002, 6003, 6004, 6005, 6006] K hp0 u) G (fun u => va_pl Ls (cellOf cy K ln u)) A) (plainFor_of_name (by decide)) (Nat.le_of_ble_eq_true rfl) ?_
  intro p e s m below meth c hsz hx hb hr hml hown hT hlocks hin hK A hA hE hw hS ls hl
  have hw : PW G cy K ln Ls A hp0 s.heap := hw
  have hown : s.vm.findClass "LieClock$Parser" = some m.cls := hown
  have hl : lv_has ls 2 [(0, .ref qa900)] := hl
  obtain ⟨Q, hQ⟩ : ∃ Q : State → Prop, Q = MQ below (QBi (S := (Nat → Nat → Value)) (fun (r : Int32) (u : (Nat → Nat → Value)) => Ok K u ∧ Fr [6002, 6003, 6004, 6005, 6006] K hp0 u) G (fun u => va_pl Ls (cellOf cy K ln u)) A) ([.ref qa900] : List Value).toArray s 0 0 A := ⟨_, rfl⟩
  rw [← hQ]
  refine lv_aload_n hx hb dX5_takeMinute_0 rfl (lv_at hl 0 rfl) ?_
  refine lv_iconst (v := 3) hx hb dX5_takeMinute_1 (by decide) ?_
  refine kq_l hw hS hA (va_runV (As := [.int 3]) (rest := []) ⟨hx, hb, hml, hown, hT⟩ (cX5_take_0 l G cy ev K ln Ls hW _ hp0 ok0 qa900 3 kd900) (cwV 1 hT (good_V tb_862 tb_859 tb_861 tb_10 tb_109) rfl rfl rfl (by decide +kernel) ⟨Nat.le_of_ble_eq_true rfl, Nat.le_of_ble_eq_true rfl⟩) (pool_preV (ci := 5) hK hE hS hA hw hW kd900 (by decide) rfl) rfl rfl hl.1 rfl (lv_room (Nat.le_of_ble_eq_true rfl)) dX5_takeMinute_2 ⟨Nat.le_of_ble_eq_true rfl, Nat.le_of_ble_eq_true rfl⟩) (fun wl5 hp1 H locs hq4 hw hS => ?_)
  obtain ⟨ok2, F3⟩ := hq4
  have hw : PW G cy K ln Ls A hp1 H := hw
  refine lv_l2i hx hb dX5_takeMinute_5 rfl (lv_topi (fun zi6 ea7 => ?_))
  refine lv_istore_n (lv' := [(1, .int zi6), (0, .ref qa900)]) hx hb dX5_takeMinute_6 rfl hl (by decide) rfl (fun ls hl => ?_)
  refine lv_iload_n hx hb dX5_takeMinute_7 rfl (lv_at hl 0 rfl) ?_
  refine lv_sipush (v := 2879) hx hb dX5_takeMinute_8 (by decide) ?_
  have jn19 : ∀ (hp16 : Nat → Nat → Value)  (H : Heap) (locs : List Loc) (ls : Array Slot), Ok K hp16 → Fr [6005, 6006] K hp1 hp16 → lv_has ls 2 [(1, .int zi6)] → PW G cy K ln Ls A hp16 H → va_S A s.heap H locs → W p l e ({ frames := 2, cells := 0, slots := 0, locals := 42 } : Room) s m ([.ref qa900] : List Value).toArray below meth c H locs 0 0 Q (F0 m 19 ls []) := by
    intro hp16 H locs ls ok18 F17 hl hw hS
    refine lv_iload_n hx hb dX5_takeMinute_19 rfl (lv_at hl 0 rfl) ?_
    rw [hQ]
    exact kz_i hx hb hr hlocks hS rfl hp16 hw ⟨ok18, (Fr.tr (Fr.tr (Fr.rf) F3 (by decide)) F17 (by decide))⟩ (Nat.le_of_ble_eq_true rfl) (Nat.le_of_ble_eq_true rfl) dX5_takeMinute_20
  refine lv_icmp_le (tgt := 19) hx hb dX5_takeMinute_11 (by decide) (fun cn8 => ?_) (fun cn8 => ?_)
  · skip
    have bd20 : (-2147483648 : Int) ≤ zi6.toInt ∧ zi6.toInt ≤ 2879 := r_le_x cn8 (b_all zi6) bc_2879 (by decide) (by decide)
    exact jn19 hp1 _ _ ls ok2 (Fr.rf) (lv_sub hl [0] rfl) hw hS
  · skip
    have bd21 : (2880 : Int) ≤ zi6.toInt ∧ zi6.toInt ≤ 2147483647 := r_lt_y (Int32.not_le.mp cn8) bc_2879 (b_all zi6) (by decide) (by decide)
    refine lv_aload_n hx hb dX5_takeMinute_14 rfl (lv_at hl 1 rfl) ?_
    refine lv_iconst (v := 5) hx hb dX5_takeMinute_15 (by decide) ?_
    refine kq_v hw hS hA (va_runV (As := [.int 5]) (rest := []) ⟨hx, hb, hml, hown, hT⟩ (cX5_failSoftly_0 l G cy ev K ln Ls hW _ hp1 ok2 qa900 5 kd900) (cwV 1 hT (good_V tb_881 tb_878 tb_880 tb_11 tb_109) rfl rfl rfl (by decide +kernel) ⟨Nat.le_of_ble_eq_true rfl, Nat.le_of_ble_eq_true rfl⟩) (pool_preV (ci := 5) hK hE hS hA hw hW kd900 (by decide) rfl) rfl rfl hl.1 rfl (lv_room (Nat.le_of_ble_eq_true rfl)) dX5_takeMinute_16 ⟨Nat.le_of_ble_eq_true rfl, Nat.le_of_ble_eq_true rfl⟩) (fun hp22 H locs hq25 hw hS => ?_)
    obtain ⟨ok23, F24⟩ := hq25
    have hw : PW G cy K ln Ls A hp22 H := hw
    exact jn19 hp22 _ _ ls ok23 (Fr.tr (Fr.rf) F24 (by decide)) (lv_sub hl [0] rfl) hw hS

set_option maxRecDepth 100000 in
set_option maxHeartbeats 4000000 in
theorem cX5_tellCase_0 (l : Launch) (G : va_G) (cy : Nat → ClassId) (ev : Ew) (K ln : Nat → Nat) (Ls : List Nat) (hW : SW K ln Ls) (sz : Nat) (hp0 : Nat → Nat → Value) (ok0 : Ok K hp0) (qa900 : Nat) (kd900 : K qa900 = 6) : Met l yX5_tellCase (WS yX5_tellCase cX5_tellCase 6 none) { frames := 23, cells := 0, slots := 0, locals := 557 } (PB2 [.ref qa900] sz G cy ev (va_pl Ls (cellOf cy K ln hp0))) (QBv (S := (Nat → Nat → Value)) (fun u : (Nat → Nat → Value) => Ok K u ∧ Fr [6002, 6003, 6004, 6005, 6006, 11007, 53000, 54000, 55000] K hp0 u) G (fun u => va_pl Ls (cellOf cy K ln u)) (va_A (va_pl Ls (cellOf cy K ln hp0)) sz)) 0 0 (va_A (va_pl Ls (cellOf cy K ln hp0)) sz) := by
  refine met_of2 (y := yX5_tellCase) (L := 6) (av := [.ref qa900]) (Qc := fun A => QBv (S := (Nat → Nat → Value)) (fun u : (Nat → Nat → Value) => Ok K u ∧ Fr [6002, 6003, 6004, 6005, 6006, 11007, 53000, 54000, 55000] K hp0 u) G (fun u => va_pl Ls (cellOf cy K ln u)) A) (plainFor_of_name (by decide)) (Nat.le_of_ble_eq_true rfl) ?_
  intro p e s m below meth c hsz hx hb hr hml hown hT hlocks hin hK A hA hE hw hS ls hl
  have hw : PW G cy K ln Ls A hp0 s.heap := hw
  have hown : s.vm.findClass "LieClock$Parser" = some m.cls := hown
  have hl : lv_has ls 6 [(0, .ref qa900)] := hl
  obtain ⟨Q, hQ⟩ : ∃ Q : State → Prop, Q = MQ below (QBv (S := (Nat → Nat → Value)) (fun u : (Nat → Nat → Value) => Ok K u ∧ Fr [6002, 6003, 6004, 6005, 6006, 11007, 53000, 54000, 55000] K hp0 u) G (fun u => va_pl Ls (cellOf cy K ln u)) A) ([.ref qa900] : List Value).toArray s 0 0 A := ⟨_, rfl⟩
  rw [← hQ]
  refine lv_aload_n hx hb dX5_tellCase_0 rfl (lv_at hl 0 rfl) ?_
  refine lv_aload_n hx hb dX5_tellCase_1 rfl (lv_at hl 0 rfl) ?_
  obtain ⟨qa2, eq1, kd3⟩ := rd_6001 ok0 kd900
  refine p_get (ci := 5) (v := .ref qa2) (C := RX5) (T := TX5) (N := 7) hx hb hT iw_X5 hown hK hw hW kd900 (by decide) rfl rfl 1 (by decide) eq1 (hT _ tb_372) (fun _ h9 => h9) dX5_tellCase_2 ?_
  obtain ⟨zi5, eq4, bd6⟩ := rd_11007 ok0 kd3
  refine p_getN (ci := 10) (v := .int zi5) (C := RX10) (T := TX10) (N := 20) hx hb hT iw_X10 hown hK hw hW kd3 (by decide) rfl rfl 7 (by decide) eq4 (hK.fl nw_110) (fun _ h9 => h9) dX5_tellCase_5 ?_
  refine lv_bipush (v := 8) hx hb dX5_tellCase_8 (by decide) ?_
  refine kq_v hw hS hA (va_runV (As := [.int zi5, .int 8]) (rest := []) ⟨hx, hb, hml, hown, hT⟩ (cX5_begin_0 l G cy ev K ln Ls hW _ hp0 ok0 qa900 zi5 8 kd900) (cwV 2 hT (good_V tb_846 tb_843 tb_845 tb_6 tb_109) rfl rfl rfl (by decide +kernel) ⟨Nat.le_of_ble_eq_true rfl, Nat.le_of_ble_eq_true rfl⟩) (pool_preV (ci := 5) hK hE hS hA hw hW kd900 (by decide) rfl) rfl rfl hl.1 rfl (lv_room (Nat.le_of_ble_eq_true rfl)) dX5_tellCase_10 ⟨Nat.le_of_ble_eq_true rfl, Nat.le_of_ble_eq_true rfl⟩) (fun hp7 H locs hq10 hw hS => ?_)
  obtain ⟨ok8, F9⟩ := hq10
  have hw : PW G cy K ln Ls A hp7 H := hw
  refine lv_aload_n hx hb dX5_tellCase_13 rfl (lv_at hl 0 rfl) ?_
  refine kq_l hw hS hA (va_runV (As := []) (rest := []) ⟨hx, hb, hml, hown, hT⟩ (cX5_takeNewName_0 l G cy ev K ln Ls hW _ hp7 ok8 qa900 kd900) (cwV 0 hT (good_V tb_858 tb_855 tb_857 tb_9 tb_109) rfl rfl rfl (by decide +kernel) ⟨Nat.le_of_ble_eq_true rfl, Nat.le_of_ble_eq_true rfl⟩) (pool_preV (ci := 5) hK hE hS hA hw hW kd900 (by decide) rfl) rfl rfl hl.1 rfl (lv_room (Nat.le_of_ble_eq_true rfl)) dX5_tellCase_14 ⟨Nat.le_of_ble_eq_true rfl, Nat.le_of_ble_eq_true rfl⟩) (fun wl16 hp12 H locs hq15 hw hS => ?_)
  obtain ⟨ok13, F14⟩ := hq15
  have hw : PW G cy K ln Ls A hp12 H := hw
  refine lv_lstore_n (lv' := [(1, .long wl16), (0, .ref qa900)]) hx hb dX5_tellCase_17 rfl hl (by decide) rfl (fun ls hl => ?_)
  refine lv_aload_n hx hb dX5_tellCase_18 rfl (lv_at hl 1 rfl) ?_
  refine kq_i hw hS hA (va_runV (As := []) (rest := []) ⟨hx, hb, hml, hown, hT⟩ (cX5_takeMinute_0 l G cy ev K ln Ls hW _ hp12 ok13 qa900 kd900) (cwV 0 hT (good_V tb_938 tb_935 tb_937 tb_20 tb_109) rfl rfl rfl (by decide +kernel) ⟨Nat.le_of_ble_eq_true rfl, Nat.le_of_ble_eq_true rfl⟩) (pool_preV (ci := 5) hK hE hS hA hw hW kd900 (by decide) rfl) rfl rfl hl.1 rfl (lv_room (Nat.le_of_ble_eq_true rfl)) dX5_tellCase_19 ⟨Nat.le_of_ble_eq_true rfl, Nat.le_of_ble_eq_true rfl⟩) (fun zi21 hp17 H locs hq20 hw hS => ?_)
  obtain ⟨ok18, F19⟩ := hq20
  have hw : PW G cy K ln Ls A hp17 H := hw
  refine lv_istore_n (lv' := [(3, .int zi21), (1, .long wl16), (0, .ref qa900)]) hx hb dX5_tellCase_22 rfl hl (by decide) rfl (fun ls hl => ?_)
  refine lv_aload_n hx hb dX5_tellCase_23 rfl (lv_at hl 2 rfl) ?_
  refine lv_bipush (v := 61) hx hb dX5_tellCase_24 (by decide) ?_
  refine kq_v hw hS hA (va_runV (As := [.int 61]) (rest := []) ⟨hx, hb, hml, hown, hT⟩ (cX5_expect_0 l G cy ev K ln Ls hW _ hp17 ok18 qa900 61 kd900) (cwV 1 hT (good_V tb_889 tb_886 tb_888 tb_12 tb_109) rfl rfl rfl (by decide +kernel) ⟨Nat.le_of_ble_eq_true rfl, Nat.le_of_ble_eq_true rfl⟩) (pool_preV (ci := 5) hK hE hS hA hw hW kd900 (by decide) rfl) rfl rfl hl.1 rfl (lv_room (Nat.le_of_ble_eq_true rfl)) dX5_tellCase_26 ⟨Nat.le_of_ble_eq_true rfl, Nat.le_of_ble_eq_true rfl⟩) (fun hp22 H locs hq25 hw hS => ?_)
  obtain ⟨ok23, F24⟩ := hq25
  have hw : PW G cy K ln Ls A hp22 H := hw
  refine lv_aload_n hx hb dX5_tellCase_29 rfl (lv_at hl 2 rfl) ?_
  refine lv_iconst (v := 0) hx hb dX5_tellCase_30 (by decide) ?_
  refine kq_l hw hS hA (va_runV (As := [.int 0]) (rest := []) ⟨hx, hb, hml, hown, hT⟩ (cX5_cond_6 l G cy ev K ln Ls hW _ hp22 ok23 qa900 0 kd900 (b_wid2 bc_0 (by decide) (by decide))) (cwV 1 hT (good_V tb_910 tb_907 tb_909 tb_15 tb_109) rfl rfl rfl (by decide +kernel) ⟨Nat.le_of_ble_eq_true rfl, Nat.le_of_ble_eq_true rfl⟩) (pool_preV (ci := 5) hK hE hS hA hw hW kd900 (by decide) rfl) rfl rfl hl.1 rfl (lv_room (Nat.le_of_ble_eq_true rfl)) dX5_tellCase_31 ⟨Nat.le_of_ble_eq_true rfl, Nat.le_of_ble_eq_true rfl⟩) (fun wl31 hp27 H locs hq30 hw hS => ?_)
  obtain ⟨ok28, F29⟩ := hq30
  have hw : PW G cy K ln Ls A hp27 H := hw
  refine lv_lstore (lv' := [(4, .long wl31), (3, .int zi21), (1, .long wl16), (0, .ref qa900)]) hx hb dX5_tellCase_34 hl (by decide) rfl (fun ls hl => ?_)
  refine lv_aload_n hx hb dX5_tellCase_36 rfl (lv_at hl 3 rfl) ?_
  refine lv_bipush (v := 59) hx hb dX5_tellCase_37 (by decide) ?_
  refine kq_v hw hS hA (va_runV (As := [.int 59]) (rest := []) ⟨hx, hb, hml, hown, hT⟩ (cX5_expect_0 l G cy ev K ln Ls hW _ hp27 ok28 qa900 59 kd900) (cwV 1 hT (good_V tb_889 tb_886 tb_888 tb_12 tb_109) rfl rfl rfl (by decide +kernel) ⟨Nat.le_of_ble_eq_true rfl, Nat.le_of_ble_eq_true rfl⟩) (pool_preV (ci := 5) hK hE hS hA hw hW kd900 (by decide) rfl) rfl rfl hl.1 rfl (lv_room (Nat.le_of_ble_eq_true rfl)) dX5_tellCase_39 ⟨Nat.le_of_ble_eq_true rfl, Nat.le_of_ble_eq_true rfl⟩) (fun hp32 H locs hq35 hw hS => ?_)
  obtain ⟨ok33, F34⟩ := hq35
  have hw : PW G cy K ln Ls A hp32 H := hw
  refine lv_aload_n hx hb dX5_tellCase_42 rfl (lv_at hl 3 rfl) ?_
  obtain ⟨zi38, eq37, bd39⟩ := rd_6004 ok33 kd900
  refine p_get (ci := 5) (v := .int zi38) (C := RX5) (T := TX5) (N := 7) hx hb hT iw_X5 hown hK hw hW kd900 (by decide) rfl rfl 4 (by decide) eq37 (hT _ tb_375) (fun _ h9 => h9) dX5_tellCase_43 ?_
  refine lv_if_ne (tgt := 60) hx hb dX5_tellCase_46 (by decide) (fun cn40 => ?_) (fun cn40 => ?_)
  · skip
    have bd41 : (1 : Int) ≤ zi38.toInt ∧ zi38.toInt ≤ 2 := r_ne_lo cn40 bd39 (toi bc_0) (by decide) (by decide)
    rw [hQ]
    exact kz_v hx hb hr hlocks hS hp32 hw ⟨ok33, (Fr.tr (Fr.tr (Fr.tr (Fr.tr (Fr.tr (Fr.tr (Fr.rf) F9 (by decide)) F14 (by decide)) F19 (by decide)) F24 (by decide)) F29 (by decide)) F34 (by decide))⟩ (Nat.le_of_ble_eq_true rfl) (Nat.le_of_ble_eq_true rfl) dX5_tellCase_60
  · skip
    have bd42 : (0 : Int) ≤ zi38.toInt ∧ zi38.toInt ≤ 0 := r_eq_x cn40 bd39 bc_0 (by decide) (by decide)
    refine lv_aload_n hx hb dX5_tellCase_49 rfl (lv_at hl 3 rfl) ?_
    have eq43 : hp32 qa900 1 = .ref qa2 := Eq.trans (Fr.at (cq := 6001) F34 kd900 (cd_o (by decide)) (by decide)) (Eq.trans (Fr.at (cq := 6001) F29 kd900 (cd_o (by decide)) (by decide)) (Eq.trans (Fr.at (cq := 6001) F24 kd900 (cd_o (by decide)) (by decide)) (Eq.trans (Fr.at (cq := 6001) F19 kd900 (cd_o (by decide)) (by decide)) (Eq.trans (Fr.at (cq := 6001) F14 kd900 (cd_o (by decide)) (by decide)) (Eq.trans (Fr.at (cq := 6001) F9 kd900 (cd_o (by decide)) (by decide)) eq1)))))
    refine p_get (ci := 5) (v := .ref qa2) (C := RX5) (T := TX5) (N := 7) hx hb hT iw_X5 hown hK hw hW kd900 (by decide) rfl rfl 1 (by decide) eq43 (hT _ tb_372) (fun _ h9 => h9) dX5_tellCase_50 ?_
    refine lv_lload_n hx hb dX5_tellCase_53 rfl (lv_at hl 2 rfl) ?_
    refine lv_iload_n hx hb dX5_tellCase_54 rfl (lv_at hl 1 rfl) ?_
    refine lv_lload hx hb dX5_tellCase_55 (lv_at hl 0 rfl) ?_
    refine kq_v hw hS hA (va_runV (As := [.long wl16, .int zi21, .long wl31]) (rest := []) ⟨hx, hb, hml, hown, hT⟩ (cX10_addCase_0 l G cy ev K ln Ls hW _ hp32 ok33 qa2 wl16 zi21 wl31 kd3) (cwV 3 hT (good_V tb_942 tb_939 tb_940 tb_941 tb_107) rfl rfl rfl (by decide +kernel) ⟨Nat.le_of_ble_eq_true rfl, Nat.le_of_ble_eq_true rfl⟩) (pool_preV (ci := 10) hK hE hS hA hw hW kd3 (by decide) rfl) rfl rfl hl.1 rfl (lv_room (Nat.le_of_ble_eq_true rfl)) dX5_tellCase_57 ⟨Nat.le_of_ble_eq_true rfl, Nat.le_of_ble_eq_true rfl⟩) (fun hp44 H locs hq47 hw hS => ?_)
    obtain ⟨ok45, F46⟩ := hq47
    have hw : PW G cy K ln Ls A hp44 H := hw
    rw [hQ]
    exact kz_v hx hb hr hlocks hS hp44 hw ⟨ok45, (Fr.tr (Fr.tr (Fr.tr (Fr.tr (Fr.tr (Fr.tr (Fr.tr (Fr.rf) F9 (by decide)) F14 (by decide)) F19 (by decide)) F24 (by decide)) F29 (by decide)) F34 (by decide)) F46 (by decide))⟩ (Nat.le_of_ble_eq_true rfl) (Nat.le_of_ble_eq_true rfl) dX5_tellCase_60

set_option maxRecDepth 100000 in
set_option maxHeartbeats 4000000 in
theorem cX5_unit_0 (l : Launch) (G : va_G) (cy : Nat → ClassId) (ev : Ew) (K ln : Nat → Nat) (Ls : List Nat) (hW : SW K ln Ls) (sz : Nat) (hp0 : Nat → Nat → Value) (ok0 : Ok K hp0) (qa900 : Nat) (qa901 : Nat) (zi902 : Int32) (kd900 : K qa900 = 6) (kd901 : K qa901 = 3) (bd902 : ((6 : Int) ≤ zi902.toInt ∧ zi902.toInt ≤ 6)) : Met l yX5_unit (WS yX5_unit cX5_unit 4 none) { frames := 2, cells := 0, slots := 0, locals := 42 } (PB2 [.ref qa900, .ref qa901, .int zi902] sz G cy ev (va_pl Ls (cellOf cy K ln hp0))) (QBv (S := (Nat → Nat → Value)) (fun u : (Nat → Nat → Value) => Ok K u ∧ Fr [3002, 6002, 6003, 6004, 26000] K hp0 u) G (fun u => va_pl Ls (cellOf cy K ln u)) (va_A (va_pl Ls (cellOf cy K ln hp0)) sz)) 0 0 (va_A (va_pl Ls (cellOf cy K ln hp0)) sz) := by
  refine met_of2 (y := yX5_unit) (L := 4) (av := [.ref qa900, .ref qa901, .int zi902]) (Qc := fun A => QBv (S := (Nat → Nat → Value)) (fun u : (Nat → Nat → Value) => Ok K u ∧ Fr [3002, 6002, 6003, 6004, 26000] K hp0 u) G (fun u => va_pl Ls (cellOf cy K ln u)) A) (plainFor_of_name (by decide)) (Nat.le_of_ble_eq_true rfl) ?_
  intro p e s m below meth c hsz hx hb hr hml hown hT hlocks hin hK A hA hE hw hS ls hl
  have hw : PW G cy K ln Ls A hp0 s.heap := hw
  have hown : s.vm.findClass "LieClock$Parser" = some m.cls := hown
  have hl : lv_has ls 4 [(0, .ref qa900), (1, .ref qa901), (2, .int zi902)] := hl
  obtain ⟨Q, hQ⟩ : ∃ Q : State → Prop, Q = MQ below (QBv (S := (Nat → Nat → Value)) (fun u : (Nat → Nat → Value) => Ok K u ∧ Fr [3002, 6002, 6003, 6004, 26000] K hp0 u) G (fun u => va_pl Ls (cellOf cy K ln u)) A) ([.ref qa900, .ref qa901, .int zi902] : List Value).toArray s 0 0 A := ⟨_, rfl⟩
  rw [← hQ]
  refine lv_aload_n hx hb dX5_unit_0 rfl (lv_at hl 0 rfl) ?_
  obtain ⟨zi2, eq1⟩ := rd_6003 ok0 kd900
  refine p_get (ci := 5) (v := .int zi2) (C := RX5) (T := TX5) (N := 7) hx hb hT iw_X5 hown hK hw hW kd900 (by decide) rfl rfl 3 (by decide) eq1 (hT _ tb_374) (fun _ h9 => h9) dX5_unit_1 ?_
  refine lv_istore_n (lv' := [(3, .int zi2), (0, .ref qa900), (1, .ref qa901), (2, .int zi902)]) hx hb dX5_unit_4 rfl hl (by decide) rfl (fun ls hl => ?_)
  refine lv_iload_n hx hb dX5_unit_5 rfl (lv_at hl 0 rfl) ?_
  refine lv_bipush (v := 40) hx hb dX5_unit_6 (by decide) ?_
  refine lv_icmp_ne (tgt := 36) hx hb dX5_unit_8 (by decide) (fun cn3 => ?_) (fun cn3 => ?_)
  · skip
    refine lv_iload_n hx hb dX5_unit_36 rfl (lv_at hl 0 rfl) ?_
    refine lv_bipush (v := 103) hx hb dX5_unit_37 (by decide) ?_
    refine lv_icmp_eq (tgt := 54) hx hb dX5_unit_39 (by decide) (fun cn4 => ?_) (fun cn4 => ?_)
    · skip
      have bd5 : (103 : Int) ≤ zi2.toInt ∧ zi2.toInt ≤ 103 := r_eq_x cn4 (b_all zi2) bc_103 (by decide) (by decide)
      refine lv_aload_n hx hb dX5_unit_54 rfl (lv_at hl 1 rfl) ?_
      refine lv_iload_n hx hb dX5_unit_55 rfl (lv_at hl 0 rfl) ?_
      refine kq_i hw hS hA (va_runV (As := [.int zi2]) (rest := []) ⟨hx, hb, hml, hown, hT⟩ (cX5_accept_0 l G cy ev K ln Ls hW _ hp0 ok0 qa900 zi2 kd900) (cwV 1 hT (good_V tb_854 tb_851 tb_853 tb_8 tb_109) rfl rfl rfl (by decide +kernel) ⟨Nat.le_of_ble_eq_true rfl, Nat.le_of_ble_eq_true rfl⟩) (pool_preV (ci := 5) hK hE hS hA hw hW kd900 (by decide) rfl) rfl rfl hl.1 rfl (lv_room (Nat.le_of_ble_eq_true rfl)) dX5_unit_56 ⟨Nat.le_of_ble_eq_true rfl, Nat.le_of_ble_eq_true rfl⟩) (fun zi10 hp6 H locs hq9 hw hS => ?_)
      obtain ⟨ok7, F8, bd11, hc12, hc13⟩ := hq9
      have hw : PW G cy K ln Ls A hp6 H := hw
      refine lv_pop hx hb dX5_unit_59 rfl ?_
      refine lv_aload_n hx hb dX5_unit_60 rfl (lv_at hl 2 rfl) ?_
      refine lv_iload_n hx hb dX5_unit_61 rfl (lv_at hl 0 rfl) ?_
      refine lv_ineg hx hb dX5_unit_62 (lv_topi (fun zi14 ea15 => ?_))
      refine kq_v hw hS hA (va_runV (As := [.int zi14]) (rest := []) ⟨hx, hb, hml, hown, hT⟩ (cX2_add_0 l G cy ev K ln Ls hW _ hp6 ok7 qa901 zi14 kd901) (cwV 1 hT (good_V tb_404 tb_960 tb_402 tb_403 tb_108) rfl rfl rfl (by decide +kernel) ⟨Nat.le_of_ble_eq_true rfl, Nat.le_of_ble_eq_true rfl⟩) (pool_preV (ci := 2) hK hE hS hA hw hW kd901 (by decide) rfl) rfl rfl hl.1 rfl (lv_room (Nat.le_of_ble_eq_true rfl)) dX5_unit_63 ⟨Nat.le_of_ble_eq_true rfl, Nat.le_of_ble_eq_true rfl⟩) (fun hp16 H locs hq19 hw hS => ?_)
      obtain ⟨ok17, F18⟩ := hq19
      have hw : PW G cy K ln Ls A hp16 H := hw
      refine lv_goto (tgt := 79) hx hb dX5_unit_66 (by decide) ?_
      rw [hQ]
      exact kz_v hx hb hr hlocks hS hp16 hw ⟨ok17, (Fr.tr (Fr.tr (Fr.rf) F8 (by decide)) F18 (by decide))⟩ (Nat.le_of_ble_eq_true rfl) (Nat.le_of_ble_eq_true rfl) dX5_unit_79
    · skip
      refine lv_iload_n hx hb dX5_unit_42 rfl (lv_at hl 0 rfl) ?_
      refine lv_bipush (v := 114) hx hb dX5_unit_43 (by decide) ?_
      refine lv_icmp_lt (tgt := 69) hx hb dX5_unit_45 (by decide) (fun cn21 => ?_) (fun cn21 => ?_)
      · skip
        have bd22 : (-2147483648 : Int) ≤ zi2.toInt ∧ zi2.toInt ≤ 113 := r_lt_x cn21 (b_all zi2) bc_114 (by decide) (by decide)
        refine lv_aload_n hx hb dX5_unit_69 rfl (lv_at hl 2 rfl) ?_
        refine lv_aload_n hx hb dX5_unit_70 rfl (lv_at hl 1 rfl) ?_
        refine lv_iconst (v := 3) hx hb dX5_unit_71 (by decide) ?_
        refine kq_l hw hS hA (va_runV (As := [.int 3]) (rest := [.ref qa901]) ⟨hx, hb, hml, hown, hT⟩ (cX5_take_0 l G cy ev K ln Ls hW _ hp0 ok0 qa900 3 kd900) (cwV 1 hT (good_V tb_862 tb_859 tb_861 tb_10 tb_109) rfl rfl rfl (by decide +kernel) ⟨Nat.le_of_ble_eq_true rfl, Nat.le_of_ble_eq_true rfl⟩) (pool_preV (ci := 5) hK hE hS hA hw hW kd900 (by decide) rfl) rfl rfl hl.1 rfl (lv_room (Nat.le_of_ble_eq_true rfl)) dX5_unit_72 ⟨Nat.le_of_ble_eq_true rfl, Nat.le_of_ble_eq_true rfl⟩) (fun wl27 hp23 H locs hq26 hw hS => ?_)
        obtain ⟨ok24, F25⟩ := hq26
        have hw : PW G cy K ln Ls A hp23 H := hw
        refine lv_l2i hx hb dX5_unit_75 rfl (lv_topi (fun zi28 ea29 => ?_))
        refine kq_v hw hS hA (va_runV (As := [.int zi28]) (rest := []) ⟨hx, hb, hml, hown, hT⟩ (cX2_add_0 l G cy ev K ln Ls hW _ hp23 ok24 qa901 zi28 kd901) (cwV 1 hT (good_V tb_404 tb_960 tb_402 tb_403 tb_108) rfl rfl rfl (by decide +kernel) ⟨Nat.le_of_ble_eq_true rfl, Nat.le_of_ble_eq_true rfl⟩) (pool_preV (ci := 2) hK hE hS hA hw hW kd901 (by decide) rfl) rfl rfl hl.1 rfl (lv_room (Nat.le_of_ble_eq_true rfl)) dX5_unit_76 ⟨Nat.le_of_ble_eq_true rfl, Nat.le_of_ble_eq_true rfl⟩) (fun hp30 H locs hq33 hw hS => ?_)
        obtain ⟨ok31, F32⟩ := hq33
        have hw : PW G cy K ln Ls A hp30 H := hw
        rw [hQ]
        exact kz_v hx hb hr hlocks hS hp30 hw ⟨ok31, (Fr.tr (Fr.tr (Fr.rf) F25 (by decide)) F32 (by decide))⟩ (Nat.le_of_ble_eq_true rfl) (Nat.le_of_ble_eq_true rfl) dX5_unit_79
      · skip
        have bd35 : (114 : Int) ≤ zi2.toInt ∧ zi2.toInt ≤ 2147483647 := r_le_y (Int32.not_lt.mp cn21) bc_114 (b_all zi2) (by decide) (by decide)
        refine lv_iload_n hx hb dX5_unit_48 rfl (lv_at hl 0 rfl) ?_
        refine lv_bipush (v := 117) hx hb dX5_unit_49 (by decide) ?_
        refine lv_icmp_gt (tgt := 69) hx hb dX5_unit_51 (by decide) (fun cn36 => ?_) (fun cn36 => ?_)
        · skip
          have bd37 : (118 : Int) ≤ zi2.toInt ∧ zi2.toInt ≤ 2147483647 := r_lt_y cn36 bc_117 bd35 (by decide) (by decide)
          refine lv_aload_n hx hb dX5_unit_69 rfl (lv_at hl 2 rfl) ?_
          refine lv_aload_n hx hb dX5_unit_70 rfl (lv_at hl 1 rfl) ?_
          refine lv_iconst (v := 3) hx hb dX5_unit_71 (by decide) ?_
          refine kq_l hw hS hA (va_runV (As := [.int 3]) (rest := [.ref qa901]) ⟨hx, hb, hml, hown, hT⟩ (cX5_take_0 l G cy ev K ln Ls hW _ hp0 ok0 qa900 3 kd900) (cwV 1 hT (good_V tb_862 tb_859 tb_861 tb_10 tb_109) rfl rfl rfl (by decide +kernel) ⟨Nat.le_of_ble_eq_true rfl, Nat.le_of_ble_eq_true rfl⟩) (pool_preV (ci := 5) hK hE hS hA hw hW kd900 (by decide) rfl) rfl rfl hl.1 rfl (lv_room (Nat.le_of_ble_eq_true rfl)) dX5_unit_72 ⟨Nat.le_of_ble_eq_true rfl, Nat.le_of_ble_eq_true rfl⟩) (fun wl42 hp38 H locs hq41 hw hS => ?_)
          obtain ⟨ok39, F40⟩ := hq41
          have hw : PW G cy K ln Ls A hp38 H := hw
          refine lv_l2i hx hb dX5_unit_75 rfl (lv_topi (fun zi43 ea44 => ?_))
          refine kq_v hw hS hA (va_runV (As := [.int zi43]) (rest := []) ⟨hx, hb, hml, hown, hT⟩ (cX2_add_0 l G cy ev K ln Ls hW _ hp38 ok39 qa901 zi43 kd901) (cwV 1 hT (good_V tb_404 tb_960 tb_402 tb_403 tb_108) rfl rfl rfl (by decide +kernel) ⟨Nat.le_of_ble_eq_true rfl, Nat.le_of_ble_eq_true rfl⟩) (pool_preV (ci := 2) hK hE hS hA hw hW kd901 (by decide) rfl) rfl rfl hl.1 rfl (lv_room (Nat.le_of_ble_eq_true rfl)) dX5_unit_76 ⟨Nat.le_of_ble_eq_true rfl, Nat.le_of_ble_eq_true rfl⟩) (fun hp45 H locs hq48 hw hS => ?_)
          obtain ⟨ok46, F47⟩ := hq48
          have hw : PW G cy K ln Ls A hp45 H := hw
          rw [hQ]
          exact kz_v hx hb hr hlocks hS hp45 hw ⟨ok46, (Fr.tr (Fr.tr (Fr.rf) F40 (by decide)) F47 (by decide))⟩ (Nat.le_of_ble_eq_true rfl) (Nat.le_of_ble_eq_true rfl) dX5_unit_79
        · skip
          have bd50 : (114 : Int) ≤ zi2.toInt ∧ zi2.toInt ≤ 117 := r_le_x (Int32.not_lt.mp cn36) bd35 bc_117 (by decide) (by decide)
          refine lv_aload_n hx hb dX5_unit_54 rfl (lv_at hl 1 rfl) ?_
          refine lv_iload_n hx hb dX5_unit_55 rfl (lv_at hl 0 rfl) ?_
          refine kq_i hw hS hA (va_runV (As := [.int zi2]) (rest := []) ⟨hx, hb, hml, hown, hT⟩ (cX5_accept_0 l G cy ev K ln Ls hW _ hp0 ok0 qa900 zi2 kd900) (cwV 1 hT (good_V tb_854 tb_851 tb_853 tb_8 tb_109) rfl rfl rfl (by decide +kernel) ⟨Nat.le_of_ble_eq_true rfl, Nat.le_of_ble_eq_true rfl⟩) (pool_preV (ci := 5) hK hE hS hA hw hW kd900 (by decide) rfl) rfl rfl hl.1 rfl (lv_room (Nat.le_of_ble_eq_true rfl)) dX5_unit_56 ⟨Nat.le_of_ble_eq_true rfl, Nat.le_of_ble_eq_true rfl⟩) (fun zi55 hp51 H locs hq54 hw hS => ?_)
          obtain ⟨ok52, F53, bd56, hc57, hc58⟩ := hq54
          have hw : PW G cy K ln Ls A hp51 H := hw
          refine lv_pop hx hb dX5_unit_59 rfl ?_
          refine lv_aload_n hx hb dX5_unit_60 rfl (lv_at hl 2 rfl) ?_
          refine lv_iload_n hx hb dX5_unit_61 rfl (lv_at hl 0 rfl) ?_
          refine lv_ineg hx hb dX5_unit_62 (lv_topi (fun zi59 ea60 => ?_))
          refine kq_v hw hS hA (va_runV (As := [.int zi59]) (rest := []) ⟨hx, hb, hml, hown, hT⟩ (cX2_add_0 l G cy ev K ln Ls hW _ hp51 ok52 qa901 zi59 kd901) (cwV 1 hT (good_V tb_404 tb_960 tb_402 tb_403 tb_108) rfl rfl rfl (by decide +kernel) ⟨Nat.le_of_ble_eq_true rfl, Nat.le_of_ble_eq_true rfl⟩) (pool_preV (ci := 2) hK hE hS hA hw hW kd901 (by decide) rfl) rfl rfl hl.1 rfl (lv_room (Nat.le_of_ble_eq_true rfl)) dX5_unit_63 ⟨Nat.le_of_ble_eq_true rfl, Nat.le_of_ble_eq_true rfl⟩) (fun hp61 H locs hq64 hw hS => ?_)
          obtain ⟨ok62, F63⟩ := hq64
          have hw : PW G cy K ln Ls A hp61 H := hw
          refine lv_goto (tgt := 79) hx hb dX5_unit_66 (by decide) ?_
          rw [hQ]
          exact kz_v hx hb hr hlocks hS hp61 hw ⟨ok62, (Fr.tr (Fr.tr (Fr.rf) F53 (by decide)) F63 (by decide))⟩ (Nat.le_of_ble_eq_true rfl) (Nat.le_of_ble_eq_true rfl) dX5_unit_79
  · skip
    have bd66 : (40 : Int) ≤ zi2.toInt ∧ zi2.toInt ≤ 40 := r_eq_x cn3 (b_all zi2) bc_40 (by decide) (by decide)
    refine lv_aload_n hx hb dX5_unit_11 rfl (lv_at hl 1 rfl) ?_
    refine lv_iload_n hx hb dX5_unit_12 rfl (lv_at hl 3 rfl) ?_
    refine kq_i hw hS hA (va_runV (As := [.int zi902]) (rest := []) ⟨hx, hb, hml, hown, hT⟩ (cX5_enter_6 l G cy ev K ln Ls hW _ hp0 ok0 qa900 zi902 kd900 (b_wid2 bd902 (by decide) (by decide))) (cwV 1 hT (good_V tb_922 tb_919 tb_921 tb_18 tb_109) rfl rfl rfl (by decide +kernel) ⟨Nat.le_of_ble_eq_true rfl, Nat.le_of_ble_eq_true rfl⟩) (pool_preV (ci := 5) hK hE hS hA hw hW kd900 (by decide) rfl) rfl rfl hl.1 rfl (lv_room (Nat.le_of_ble_eq_true rfl)) dX5_unit_13 ⟨Nat.le_of_ble_eq_true rfl, Nat.le_of_ble_eq_true rfl⟩) (fun zi71 hp67 H locs hq70 hw hS => ?_)
    obtain ⟨ok68, F69, bd72, ⟨zi73, eq74, bd75⟩⟩ := hq70
    have hw : PW G cy K ln Ls A hp67 H := hw
    refine lv_if_eq (tgt := 27) hx hb dX5_unit_16 (by decide) (fun _ => ?_) (fun c => absurd (d_eq bd72 bc_0) c)
    refine lv_aload_n hx hb dX5_unit_27 rfl (lv_at hl 1 rfl) ?_
    refine lv_bipush (v := 41) hx hb dX5_unit_28 (by decide) ?_
    refine kq_v hw hS hA (va_runV (As := [.int 41]) (rest := []) ⟨hx, hb, hml, hown, hT⟩ (cX5_expect_0 l G cy ev K ln Ls hW _ hp67 ok68 qa900 41 kd900) (cwV 1 hT (good_V tb_889 tb_886 tb_888 tb_12 tb_109) rfl rfl rfl (by decide +kernel) ⟨Nat.le_of_ble_eq_true rfl, Nat.le_of_ble_eq_true rfl⟩) (pool_preV (ci := 5) hK hE hS hA hw hW kd900 (by decide) rfl) rfl rfl hl.1 rfl (lv_room (Nat.le_of_ble_eq_true rfl)) dX5_unit_30 ⟨Nat.le_of_ble_eq_true rfl, Nat.le_of_ble_eq_true rfl⟩) (fun hp76 H locs hq79 hw hS => ?_)
    obtain ⟨ok77, F78⟩ := hq79
    have hw : PW G cy K ln Ls A hp76 H := hw
    refine lv_goto (tgt := 79) hx hb dX5_unit_33 (by decide) ?_
    rw [hQ]
    exact kz_v hx hb hr hlocks hS hp76 hw ⟨ok77, (Fr.tr (Fr.tr (Fr.rf) F69 (by decide)) F78 (by decide))⟩ (Nat.le_of_ble_eq_true rfl) (Nat.le_of_ble_eq_true rfl) dX5_unit_79

set_option maxRecDepth 100000 in
set_option maxHeartbeats 4000000 in
theorem cX5_product_0 (l : Launch) (G : va_G) (cy : Nat → ClassId) (ev : Ew) (K ln : Nat → Nat) (Ls : List Nat) (hW : SW K ln Ls) (sz : Nat) (hp0 : Nat → Nat → Value) (ok0 : Ok K hp0) (qa900 : Nat) (qa901 : Nat) (zi902 : Int32) (kd900 : K qa900 = 6) (kd901 : K qa901 = 3) (bd902 : ((6 : Int) ≤ zi902.toInt ∧ zi902.toInt ≤ 6)) : Met l yX5_product (WS yX5_product cX5_product 5 none) { frames := 3, cells := 0, slots := 0, locals := 65 } (PB2 [.ref qa900, .ref qa901, .int zi902] sz G cy ev (va_pl Ls (cellOf cy K ln hp0))) (QBv (S := (Nat → Nat → Value)) (fun u : (Nat → Nat → Value) => Ok K u ∧ Fr [3002, 6002, 6003, 6004, 26000] K hp0 u) G (fun u => va_pl Ls (cellOf cy K ln u)) (va_A (va_pl Ls (cellOf cy K ln hp0)) sz)) 0 0 (va_A (va_pl Ls (cellOf cy K ln hp0)) sz) := by
  refine met_of2 (y := yX5_product) (L := 5) (av := [.ref qa900, .ref qa901, .int zi902]) (Qc := fun A => QBv (S := (Nat → Nat → Value)) (fun u : (Nat → Nat → Value) => Ok K u ∧ Fr [3002, 6002, 6003, 6004, 26000] K hp0 u) G (fun u => va_pl Ls (cellOf cy K ln u)) A) (plainFor_of_name (by decide)) (Nat.le_of_ble_eq_true rfl) ?_
  intro p e s m below meth c hsz hx hb hr hml hown hT hlocks hin hK A hA hE hw hS ls hl
  have hw : PW G cy K ln Ls A hp0 s.heap := hw
  have hown : s.vm.findClass "LieClock$Parser" = some m.cls := hown
  have hl : lv_has ls 5 [(0, .ref qa900), (1, .ref qa901), (2, .int zi902)] := hl
  obtain ⟨Q, hQ⟩ : ∃ Q : State → Prop, Q = MQ below (QBv (S := (Nat → Nat → Value)) (fun u : (Nat → Nat → Value) => Ok K u ∧ Fr [3002, 6002, 6003, 6004, 26000] K hp0 u) G (fun u => va_pl Ls (cellOf cy K ln u)) A) ([.ref qa900, .ref qa901, .int zi902] : List Value).toArray s 0 0 A := ⟨_, rfl⟩
  rw [← hQ]
  refine lv_aload_n hx hb dX5_product_0 rfl (lv_at hl 0 rfl) ?_
  refine lv_aload_n hx hb dX5_product_1 rfl (lv_at hl 1 rfl) ?_
  refine lv_iload_n hx hb dX5_product_2 rfl (lv_at hl 2 rfl) ?_
  refine kq_v hw hS hA (va_runV (As := [.ref qa901, .int zi902]) (rest := []) ⟨hx, hb, hml, hown, hT⟩ (cX5_unit_0 l G cy ev K ln Ls hW _ hp0 ok0 qa900 qa901 zi902 kd900 kd901 (b_wid2 bd902 (by decide) (by decide))) (cwV 2 hT (good_V tb_959 tb_956 tb_958 tb_24 tb_109) rfl rfl rfl (by decide +kernel) ⟨Nat.le_of_ble_eq_true rfl, Nat.le_of_ble_eq_true rfl⟩) (pool_preV (ci := 5) hK hE hS hA hw hW kd900 (by decide) rfl) rfl rfl hl.1 rfl (lv_room (Nat.le_of_ble_eq_true rfl)) dX5_product_3 ⟨Nat.le_of_ble_eq_true rfl, Nat.le_of_ble_eq_true rfl⟩) (fun hp1 H locs hq4 hw hS => ?_)
  obtain ⟨ok2, F3⟩ := hq4
  have hw : PW G cy K ln Ls A hp1 H := hw
  refine lv_iconst (v := 0) hx hb dX5_product_6 (by decide) ?_
  refine lv_istore_n (lv' := [(3, .int 0), (0, .ref qa900), (1, .ref qa901), (2, .int zi902)]) hx hb dX5_product_7 rfl hl (by decide) rfl (fun ls hl => ?_)
  have jn428 : ∀ (hp425 : Nat → Nat → Value)  (H : Heap) (locs : List Loc) (ls : Array Slot), Ok K hp425 → Fr [3002, 6002, 6003, 6004, 26000] K hp1 hp425 → lv_has ls 5 [] → PW G cy K ln Ls A hp425 H → va_S A s.heap H locs → W p l e ({ frames := 3, cells := 0, slots := 0, locals := 65 } : Room) s m ([.ref qa900, .ref qa901, .int zi902] : List Value).toArray below meth c H locs 0 0 Q (F0 m 65 ls []) := by
    intro hp425 H locs ls ok427 F426 hl hw hS
    rw [hQ]
    exact kz_v hx hb hr hlocks hS hp425 hw ⟨ok427, (Fr.tr (Fr.tr (Fr.rf) F3 (by decide)) F426 (by decide))⟩ (Nat.le_of_ble_eq_true rfl) (Nat.le_of_ble_eq_true rfl) dX5_product_65
  have lp431 : ∀ (n429 : Nat) (hp303 : Nat → Nat → Value) (zi302 : Int32) (H : Heap) (locs : List Loc) (ls : Array Slot), 401 - zi302.toInt < (n429 : Int) → Ok K hp303 → Fr [3002, 6002, 6003, 6004, 26000] K hp1 hp303 → ((0 : Int) ≤ zi302.toInt ∧ zi302.toInt ≤ 401) → lv_has ls 5 [(0, .ref qa900), (1, .ref qa901), (2, .int zi902), (3, .int zi302)] → PW G cy K ln Ls A hp303 H → va_S A s.heap H locs → W p l e ({ frames := 3, cells := 0, slots := 0, locals := 65 } : Room) s m ([.ref qa900, .ref qa901, .int zi902] : List Value).toArray below meth c H locs 0 0 Q (F0 m 8 ls []) := by
    intro n429
    induction n429 with
    | zero =>
      intro hp303 zi302 H locs ls hm432 ok305 F304 bd306 hl hw hS
      exact absurd hm432 (by have := bd306; omega)
    | succ n429 ih430 =>
      intro hp303 zi302 H locs ls hm432 ok305 F304 bd306 hl hw hS
      refine lv_iload_n hx hb dX5_product_8 rfl (lv_at hl 3 rfl) ?_
      refine lv_sipush (v := 400) hx hb dX5_product_9 (by decide) ?_
      refine lv_icmp_gt (tgt := 65) hx hb dX5_product_12 (by decide) (fun cn433 => ?_) (fun cn433 => ?_)
      · skip
        have bd434 : (401 : Int) ≤ zi302.toInt ∧ zi302.toInt ≤ 401 := r_lt_y cn433 bc_400 bd306 (by decide) (by decide)
        exact jn428 hp303 _ _ ls ok305 (Fr.tr (Fr.rf) F304 (by decide)) (lv_sub hl [] rfl) hw hS
      · skip
        have bd435 : (0 : Int) ≤ zi302.toInt ∧ zi302.toInt ≤ 400 := r_le_x (Int32.not_lt.mp cn433) bd306 bc_400 (by decide) (by decide)
        refine lv_aload_n hx hb dX5_product_15 rfl (lv_at hl 0 rfl) ?_
        obtain ⟨zi437, eq436⟩ := rd_6003 ok305 kd900
        refine p_get (ci := 5) (v := .int zi437) (C := RX5) (T := TX5) (N := 7) hx hb hT iw_X5 hown hK hw hW kd900 (by decide) rfl rfl 3 (by decide) eq436 (hT _ tb_374) (fun _ h9 => h9) dX5_product_16 ?_
        refine lv_bipush (v := 42) hx hb dX5_product_19 (by decide) ?_
        refine lv_icmp_eq (tgt := 33) hx hb dX5_product_21 (by decide) (fun cn438 => ?_) (fun cn438 => ?_)
        · skip
          have bd439 : (42 : Int) ≤ zi437.toInt ∧ zi437.toInt ≤ 42 := r_eq_x cn438 (b_all zi437) bc_42 (by decide) (by decide)
          refine lv_aload_n hx hb dX5_product_33 rfl (lv_at hl 0 rfl) ?_
          refine p_get (ci := 5) (v := .int zi437) (C := RX5) (T := TX5) (N := 7) hx hb hT iw_X5 hown hK hw hW kd900 (by decide) rfl rfl 3 (by decide) eq436 (hT _ tb_374) (fun _ h9 => h9) dX5_product_34 ?_
          refine lv_istore (lv' := [(4, .int zi437), (0, .ref qa900), (1, .ref qa901), (2, .int zi902), (3, .int zi302)]) hx hb dX5_product_37 hl (by decide) rfl (fun ls hl => ?_)
          refine lv_aload_n hx hb dX5_product_39 rfl (lv_at hl 1 rfl) ?_
          refine lv_iload hx hb dX5_product_40 (lv_at hl 0 rfl) ?_
          refine kq_i hw hS hA (va_runV (As := [.int zi437]) (rest := []) ⟨hx, hb, hml, hown, hT⟩ (cX5_accept_0 l G cy ev K ln Ls hW _ hp303 ok305 qa900 zi437 kd900) (cwV 1 hT (good_V tb_854 tb_851 tb_853 tb_8 tb_109) rfl rfl rfl (by decide +kernel) ⟨Nat.le_of_ble_eq_true rfl, Nat.le_of_ble_eq_true rfl⟩) (pool_preV (ci := 5) hK hE hS hA hw hW kd900 (by decide) rfl) rfl rfl hl.1 rfl (lv_room (Nat.le_of_ble_eq_true rfl)) dX5_product_42 ⟨Nat.le_of_ble_eq_true rfl, Nat.le_of_ble_eq_true rfl⟩) (fun zi444 hp440 H locs hq443 hw hS => ?_)
          obtain ⟨ok441, F442, bd445, hc446, hc447⟩ := hq443
          have hw : PW G cy K ln Ls A hp440 H := hw
          refine lv_pop hx hb dX5_product_45 rfl ?_
          refine lv_aload_n hx hb dX5_product_46 rfl (lv_at hl 1 rfl) ?_
          refine lv_aload_n hx hb dX5_product_47 rfl (lv_at hl 2 rfl) ?_
          refine lv_iload_n hx hb dX5_product_48 rfl (lv_at hl 3 rfl) ?_
          refine kq_v hw hS hA (va_runV (As := [.ref qa901, .int zi902]) (rest := []) ⟨hx, hb, hml, hown, hT⟩ (cX5_unit_0 l G cy ev K ln Ls hW _ hp440 ok441 qa900 qa901 zi902 kd900 kd901 (b_wid2 bd902 (by decide) (by decide))) (cwV 2 hT (good_V tb_959 tb_956 tb_958 tb_24 tb_109) rfl rfl rfl (by decide +kernel) ⟨Nat.le_of_ble_eq_true rfl, Nat.le_of_ble_eq_true rfl⟩) (pool_preV (ci := 5) hK hE hS hA hw hW kd900 (by decide) rfl) rfl rfl hl.1 rfl (lv_room (Nat.le_of_ble_eq_true rfl)) dX5_product_49 ⟨Nat.le_of_ble_eq_true rfl, Nat.le_of_ble_eq_true rfl⟩) (fun hp448 H locs hq451 hw hS => ?_)
          obtain ⟨ok449, F450⟩ := hq451
          have hw : PW G cy K ln Ls A hp448 H := hw
          refine lv_aload_n hx hb dX5_product_52 rfl (lv_at hl 2 rfl) ?_
          refine lv_iload hx hb dX5_product_53 (lv_at hl 0 rfl) ?_
          refine lv_ineg hx hb dX5_product_55 (lv_topi (fun zi453 ea454 => ?_))
          refine kq_v hw hS hA (va_runV (As := [.int zi453]) (rest := []) ⟨hx, hb, hml, hown, hT⟩ (cX2_add_0 l G cy ev K ln Ls hW _ hp448 ok449 qa901 zi453 kd901) (cwV 1 hT (good_V tb_404 tb_960 tb_402 tb_403 tb_108) rfl rfl rfl (by decide +kernel) ⟨Nat.le_of_ble_eq_true rfl, Nat.le_of_ble_eq_true rfl⟩) (pool_preV (ci := 2) hK hE hS hA hw hW kd901 (by decide) rfl) rfl rfl hl.1 rfl (lv_room (Nat.le_of_ble_eq_true rfl)) dX5_product_56 ⟨Nat.le_of_ble_eq_true rfl, Nat.le_of_ble_eq_true rfl⟩) (fun hp455 H locs hq458 hw hS => ?_)
          obtain ⟨ok456, F457⟩ := hq458
          have hw : PW G cy K ln Ls A hp455 H := hw
          obtain ⟨zi460, ea461⟩ : ∃ z : Int32, z = zi302 + 1 := ⟨_, rfl⟩
          have bd462 : (1 : Int) ≤ zi460.toInt ∧ zi460.toInt ≤ 401 := b_iadd ea461 bd435 bc_1 (by decide) (by decide) (by decide) (by decide)
          have qe463 : zi460.toInt = (zi302 : Int32).toInt + (1 : Int32).toInt := e_iadd ea461 bd435 bc_1 (by decide) (by decide)
          have qe464 : zi460.toInt = zi302.toInt + 1 := by have ha : (1 : Int32).toInt = 1 := (by decide); rw [ha] at qe463; exact qe463
          refine lv_iinc (v := zi460) (lv' := [(3, .int zi460), (4, .int zi437), (0, .ref qa900), (1, .ref qa901), (2, .int zi902)]) hx hb dX5_product_59 hl (k := 4) rfl ea461.symm (by decide) rfl (fun ls hl => ?_)
          refine lv_goto (tgt := 8) hx hb dX5_product_62 (by decide) ?_
          exact ih430 hp455 zi460 _ _ ls (by have := hm432; have := qe464; omega) ok456 (Fr.tr (Fr.tr (Fr.tr (Fr.tr (Fr.rf) F304 (by decide)) F442 (by decide)) F450 (by decide)) F457 (by decide)) (b_wid2 bd462 (by decide) (by decide)) (lv_sub hl [2, 3, 4, 0] rfl) hw hS
        · skip
          refine lv_aload_n hx hb dX5_product_24 rfl (lv_at hl 0 rfl) ?_
          refine p_get (ci := 5) (v := .int zi437) (C := RX5) (T := TX5) (N := 7) hx hb hT iw_X5 hown hK hw hW kd900 (by decide) rfl rfl 3 (by decide) eq436 (hT _ tb_374) (fun _ h9 => h9) dX5_product_25 ?_
          refine lv_bipush (v := 47) hx hb dX5_product_28 (by decide) ?_
          refine lv_icmp_ne (tgt := 65) hx hb dX5_product_30 (by decide) (fun cn465 => ?_) (fun cn465 => ?_)
          · skip
            exact jn428 hp303 _ _ ls ok305 (Fr.tr (Fr.rf) F304 (by decide)) (lv_sub hl [] rfl) hw hS
          · skip
            have bd466 : (47 : Int) ≤ zi437.toInt ∧ zi437.toInt ≤ 47 := r_eq_x cn465 (b_all zi437) bc_47 (by decide) (by decide)
            refine lv_aload_n hx hb dX5_product_33 rfl (lv_at hl 0 rfl) ?_
            refine p_get (ci := 5) (v := .int zi437) (C := RX5) (T := TX5) (N := 7) hx hb hT iw_X5 hown hK hw hW kd900 (by decide) rfl rfl 3 (by decide) eq436 (hT _ tb_374) (fun _ h9 => h9) dX5_product_34 ?_
            refine lv_istore (lv' := [(4, .int zi437), (0, .ref qa900), (1, .ref qa901), (2, .int zi902), (3, .int zi302)]) hx hb dX5_product_37 hl (by decide) rfl (fun ls hl => ?_)
            refine lv_aload_n hx hb dX5_product_39 rfl (lv_at hl 1 rfl) ?_
            refine lv_iload hx hb dX5_product_40 (lv_at hl 0 rfl) ?_
            refine kq_i hw hS hA (va_runV (As := [.int zi437]) (rest := []) ⟨hx, hb, hml, hown, hT⟩ (cX5_accept_0 l G cy ev K ln Ls hW _ hp303 ok305 qa900 zi437 kd900) (cwV 1 hT (good_V tb_854 tb_851 tb_853 tb_8 tb_109) rfl rfl rfl (by decide +kernel) ⟨Nat.le_of_ble_eq_true rfl, Nat.le_of_ble_eq_true rfl⟩) (pool_preV (ci := 5) hK hE hS hA hw hW kd900 (by decide) rfl) rfl rfl hl.1 rfl (lv_room (Nat.le_of_ble_eq_true rfl)) dX5_product_42 ⟨Nat.le_of_ble_eq_true rfl, Nat.le_of_ble_eq_true rfl⟩) (fun zi471 hp467 H locs hq470 hw hS => ?_)
            obtain ⟨ok468, F469, bd472, hc473, hc474⟩ := hq470
            have hw : PW G cy K ln Ls A hp467 H := hw
            refine lv_pop hx hb dX5_product_45 rfl ?_
            refine lv_aload_n hx hb dX5_product_46 rfl (lv_at hl 1 rfl) ?_
            refine lv_aload_n hx hb dX5_product_47 rfl (lv_at hl 2 rfl) ?_
            refine lv_iload_n hx hb dX5_product_48 rfl (lv_at hl 3 rfl) ?_
            refine kq_v hw hS hA (va_runV (As := [.ref qa901, .int zi902]) (rest := []) ⟨hx, hb, hml, hown, hT⟩ (cX5_unit_0 l G cy ev K ln Ls hW _ hp467 ok468 qa900 qa901 zi902 kd900 kd901 (b_wid2 bd902 (by decide) (by decide))) (cwV 2 hT (good_V tb_959 tb_956 tb_958 tb_24 tb_109) rfl rfl rfl (by decide +kernel) ⟨Nat.le_of_ble_eq_true rfl, Nat.le_of_ble_eq_true rfl⟩) (pool_preV (ci := 5) hK hE hS hA hw hW kd900 (by decide) rfl) rfl rfl hl.1 rfl (lv_room (Nat.le_of_ble_eq_true rfl)) dX5_product_49 ⟨Nat.le_of_ble_eq_true rfl, Nat.le_of_ble_eq_true rfl⟩) (fun hp475 H locs hq478 hw hS => ?_)
            obtain ⟨ok476, F477⟩ := hq478
            have hw : PW G cy K ln Ls A hp475 H := hw
            refine lv_aload_n hx hb dX5_product_52 rfl (lv_at hl 2 rfl) ?_
            refine lv_iload hx hb dX5_product_53 (lv_at hl 0 rfl) ?_
            refine lv_ineg hx hb dX5_product_55 (lv_topi (fun zi480 ea481 => ?_))
            refine kq_v hw hS hA (va_runV (As := [.int zi480]) (rest := []) ⟨hx, hb, hml, hown, hT⟩ (cX2_add_0 l G cy ev K ln Ls hW _ hp475 ok476 qa901 zi480 kd901) (cwV 1 hT (good_V tb_404 tb_960 tb_402 tb_403 tb_108) rfl rfl rfl (by decide +kernel) ⟨Nat.le_of_ble_eq_true rfl, Nat.le_of_ble_eq_true rfl⟩) (pool_preV (ci := 2) hK hE hS hA hw hW kd901 (by decide) rfl) rfl rfl hl.1 rfl (lv_room (Nat.le_of_ble_eq_true rfl)) dX5_product_56 ⟨Nat.le_of_ble_eq_true rfl, Nat.le_of_ble_eq_true rfl⟩) (fun hp482 H locs hq485 hw hS => ?_)
            obtain ⟨ok483, F484⟩ := hq485
            have hw : PW G cy K ln Ls A hp482 H := hw
            obtain ⟨zi487, ea488⟩ : ∃ z : Int32, z = zi302 + 1 := ⟨_, rfl⟩
            have bd489 : (1 : Int) ≤ zi487.toInt ∧ zi487.toInt ≤ 401 := b_iadd ea488 bd435 bc_1 (by decide) (by decide) (by decide) (by decide)
            have qe490 : zi487.toInt = (zi302 : Int32).toInt + (1 : Int32).toInt := e_iadd ea488 bd435 bc_1 (by decide) (by decide)
            have qe491 : zi487.toInt = zi302.toInt + 1 := by have ha : (1 : Int32).toInt = 1 := (by decide); rw [ha] at qe490; exact qe490
            refine lv_iinc (v := zi487) (lv' := [(3, .int zi487), (4, .int zi437), (0, .ref qa900), (1, .ref qa901), (2, .int zi902)]) hx hb dX5_product_59 hl (k := 4) rfl ea488.symm (by decide) rfl (fun ls hl => ?_)
            refine lv_goto (tgt := 8) hx hb dX5_product_62 (by decide) ?_
            exact ih430 hp482 zi487 _ _ ls (by have := hm432; have := qe491; omega) ok483 (Fr.tr (Fr.tr (Fr.tr (Fr.tr (Fr.rf) F304 (by decide)) F469 (by decide)) F477 (by decide)) F484 (by decide)) (b_wid2 bd489 (by decide) (by decide)) (lv_sub hl [2, 3, 4, 0] rfl) hw hS
  exact lp431 _ hp1 0 _ _ ls (lp_in _) ok2 (Fr.rf) (b_wid2 bc_0 (by decide) (by decide)) (lv_sub hl [1, 2, 3, 0] rfl) hw hS

set_option maxRecDepth 100000 in
set_option maxHeartbeats 4000000 in
theorem cX5_sum_0 (l : Launch) (G : va_G) (cy : Nat → ClassId) (ev : Ew) (K ln : Nat → Nat) (Ls : List Nat) (hW : SW K ln Ls) (sz : Nat) (hp0 : Nat → Nat → Value) (ok0 : Ok K hp0) (qa900 : Nat) (qa901 : Nat) (zi902 : Int32) (kd900 : K qa900 = 6) (kd901 : K qa901 = 3) (bd902 : ((6 : Int) ≤ zi902.toInt ∧ zi902.toInt ≤ 6)) : Met l yX5_sum (WS yX5_sum cX5_sum 5 none) { frames := 4, cells := 0, slots := 0, locals := 89 } (PB2 [.ref qa900, .ref qa901, .int zi902] sz G cy ev (va_pl Ls (cellOf cy K ln hp0))) (QBv (S := (Nat → Nat → Value)) (fun u : (Nat → Nat → Value) => Ok K u ∧ Fr [3002, 6002, 6003, 6004, 26000] K hp0 u) G (fun u => va_pl Ls (cellOf cy K ln u)) (va_A (va_pl Ls (cellOf cy K ln hp0)) sz)) 0 0 (va_A (va_pl Ls (cellOf cy K ln hp0)) sz) := by
  refine met_of2 (y := yX5_sum) (L := 5) (av := [.ref qa900, .ref qa901, .int zi902]) (Qc := fun A => QBv (S := (Nat → Nat → Value)) (fun u : (Nat → Nat → Value) => Ok K u ∧ Fr [3002, 6002, 6003, 6004, 26000] K hp0 u) G (fun u => va_pl Ls (cellOf cy K ln u)) A) (plainFor_of_name (by decide)) (Nat.le_of_ble_eq_true rfl) ?_
  intro p e s m below meth c hsz hx hb hr hml hown hT hlocks hin hK A hA hE hw hS ls hl
  have hw : PW G cy K ln Ls A hp0 s.heap := hw
  have hown : s.vm.findClass "LieClock$Parser" = some m.cls := hown
  have hl : lv_has ls 5 [(0, .ref qa900), (1, .ref qa901), (2, .int zi902)] := hl
  obtain ⟨Q, hQ⟩ : ∃ Q : State → Prop, Q = MQ below (QBv (S := (Nat → Nat → Value)) (fun u : (Nat → Nat → Value) => Ok K u ∧ Fr [3002, 6002, 6003, 6004, 26000] K hp0 u) G (fun u => va_pl Ls (cellOf cy K ln u)) A) ([.ref qa900, .ref qa901, .int zi902] : List Value).toArray s 0 0 A := ⟨_, rfl⟩
  rw [← hQ]
  refine lv_aload_n hx hb dX5_sum_0 rfl (lv_at hl 0 rfl) ?_
  refine lv_aload_n hx hb dX5_sum_1 rfl (lv_at hl 1 rfl) ?_
  refine lv_iload_n hx hb dX5_sum_2 rfl (lv_at hl 2 rfl) ?_
  refine kq_v hw hS hA (va_runV (As := [.ref qa901, .int zi902]) (rest := []) ⟨hx, hb, hml, hown, hT⟩ (cX5_product_0 l G cy ev K ln Ls hW _ hp0 ok0 qa900 qa901 zi902 kd900 kd901 (b_wid2 bd902 (by decide) (by decide))) (cwV 2 hT (good_V tb_955 tb_952 tb_954 tb_23 tb_109) rfl rfl rfl (by decide +kernel) ⟨Nat.le_of_ble_eq_true rfl, Nat.le_of_ble_eq_true rfl⟩) (pool_preV (ci := 5) hK hE hS hA hw hW kd900 (by decide) rfl) rfl rfl hl.1 rfl (lv_room (Nat.le_of_ble_eq_true rfl)) dX5_sum_3 ⟨Nat.le_of_ble_eq_true rfl, Nat.le_of_ble_eq_true rfl⟩) (fun hp1 H locs hq4 hw hS => ?_)
  obtain ⟨ok2, F3⟩ := hq4
  have hw : PW G cy K ln Ls A hp1 H := hw
  refine lv_iconst (v := 0) hx hb dX5_sum_6 (by decide) ?_
  refine lv_istore_n (lv' := [(3, .int 0), (0, .ref qa900), (1, .ref qa901), (2, .int zi902)]) hx hb dX5_sum_7 rfl hl (by decide) rfl (fun ls hl => ?_)
  have jn428 : ∀ (hp425 : Nat → Nat → Value)  (H : Heap) (locs : List Loc) (ls : Array Slot), Ok K hp425 → Fr [3002, 6002, 6003, 6004, 26000] K hp1 hp425 → lv_has ls 5 [] → PW G cy K ln Ls A hp425 H → va_S A s.heap H locs → W p l e ({ frames := 4, cells := 0, slots := 0, locals := 89 } : Room) s m ([.ref qa900, .ref qa901, .int zi902] : List Value).toArray below meth c H locs 0 0 Q (F0 m 65 ls []) := by
    intro hp425 H locs ls ok427 F426 hl hw hS
    rw [hQ]
    exact kz_v hx hb hr hlocks hS hp425 hw ⟨ok427, (Fr.tr (Fr.tr (Fr.rf) F3 (by decide)) F426 (by decide))⟩ (Nat.le_of_ble_eq_true rfl) (Nat.le_of_ble_eq_true rfl) dX5_sum_65
  have lp431 : ∀ (n429 : Nat) (hp303 : Nat → Nat → Value) (zi302 : Int32) (H : Heap) (locs : List Loc) (ls : Array Slot), 401 - zi302.toInt < (n429 : Int) → Ok K hp303 → Fr [3002, 6002, 6003, 6004, 26000] K hp1 hp303 → ((0 : Int) ≤ zi302.toInt ∧ zi302.toInt ≤ 401) → lv_has ls 5 [(0, .ref qa900), (1, .ref qa901), (2, .int zi902), (3, .int zi302)] → PW G cy K ln Ls A hp303 H → va_S A s.heap H locs → W p l e ({ frames := 4, cells := 0, slots := 0, locals := 89 } : Room) s m ([.ref qa900, .ref qa901, .int zi902] : List Value).toArray below meth c H locs 0 0 Q (F0 m 8 ls []) := by
    intro n429
    induction n429 with
    | zero =>
      intro hp303 zi302 H locs ls hm432 ok305 F304 bd306 hl hw hS
      exact absurd hm432 (by have := bd306; omega)
    | succ n429 ih430 =>
      intro hp303 zi302 H locs ls hm432 ok305 F304 bd306 hl hw hS
      refine lv_iload_n hx hb dX5_sum_8 rfl (lv_at hl 3 rfl) ?_
      refine lv_sipush (v := 400) hx hb dX5_sum_9 (by decide) ?_
      refine lv_icmp_gt (tgt := 65) hx hb dX5_sum_12 (by decide) (fun cn433 => ?_) (fun cn433 => ?_)
      · skip
        have bd434 : (401 : Int) ≤ zi302.toInt ∧ zi302.toInt ≤ 401 := r_lt_y cn433 bc_400 bd306 (by decide) (by decide)
        exact jn428 hp303 _ _ ls ok305 (Fr.tr (Fr.rf) F304 (by decide)) (lv_sub hl [] rfl) hw hS
      · skip
        have bd435 : (0 : Int) ≤ zi302.toInt ∧ zi302.toInt ≤ 400 := r_le_x (Int32.not_lt.mp cn433) bd306 bc_400 (by decide) (by decide)
        refine lv_aload_n hx hb dX5_sum_15 rfl (lv_at hl 0 rfl) ?_
        obtain ⟨zi437, eq436⟩ := rd_6003 ok305 kd900
        refine p_get (ci := 5) (v := .int zi437) (C := RX5) (T := TX5) (N := 7) hx hb hT iw_X5 hown hK hw hW kd900 (by decide) rfl rfl 3 (by decide) eq436 (hT _ tb_374) (fun _ h9 => h9) dX5_sum_16 ?_
        refine lv_bipush (v := 43) hx hb dX5_sum_19 (by decide) ?_
        refine lv_icmp_eq (tgt := 33) hx hb dX5_sum_21 (by decide) (fun cn438 => ?_) (fun cn438 => ?_)
        · skip
          have bd439 : (43 : Int) ≤ zi437.toInt ∧ zi437.toInt ≤ 43 := r_eq_x cn438 (b_all zi437) bc_43 (by decide) (by decide)
          refine lv_aload_n hx hb dX5_sum_33 rfl (lv_at hl 0 rfl) ?_
          refine p_get (ci := 5) (v := .int zi437) (C := RX5) (T := TX5) (N := 7) hx hb hT iw_X5 hown hK hw hW kd900 (by decide) rfl rfl 3 (by decide) eq436 (hT _ tb_374) (fun _ h9 => h9) dX5_sum_34 ?_
          refine lv_istore (lv' := [(4, .int zi437), (0, .ref qa900), (1, .ref qa901), (2, .int zi902), (3, .int zi302)]) hx hb dX5_sum_37 hl (by decide) rfl (fun ls hl => ?_)
          refine lv_aload_n hx hb dX5_sum_39 rfl (lv_at hl 1 rfl) ?_
          refine lv_iload hx hb dX5_sum_40 (lv_at hl 0 rfl) ?_
          refine kq_i hw hS hA (va_runV (As := [.int zi437]) (rest := []) ⟨hx, hb, hml, hown, hT⟩ (cX5_accept_0 l G cy ev K ln Ls hW _ hp303 ok305 qa900 zi437 kd900) (cwV 1 hT (good_V tb_854 tb_851 tb_853 tb_8 tb_109) rfl rfl rfl (by decide +kernel) ⟨Nat.le_of_ble_eq_true rfl, Nat.le_of_ble_eq_true rfl⟩) (pool_preV (ci := 5) hK hE hS hA hw hW kd900 (by decide) rfl) rfl rfl hl.1 rfl (lv_room (Nat.le_of_ble_eq_true rfl)) dX5_sum_42 ⟨Nat.le_of_ble_eq_true rfl, Nat.le_of_ble_eq_true rfl⟩) (fun zi444 hp440 H locs hq443 hw hS => ?_)
          obtain ⟨ok441, F442, bd445, hc446, hc447⟩ := hq443
          have hw : PW G cy K ln Ls A hp440 H := hw
          refine lv_pop hx hb dX5_sum_45 rfl ?_
          refine lv_aload_n hx hb dX5_sum_46 rfl (lv_at hl 1 rfl) ?_
          refine lv_aload_n hx hb dX5_sum_47 rfl (lv_at hl 2 rfl) ?_
          refine lv_iload_n hx hb dX5_sum_48 rfl (lv_at hl 3 rfl) ?_
          refine kq_v hw hS hA (va_runV (As := [.ref qa901, .int zi902]) (rest := []) ⟨hx, hb, hml, hown, hT⟩ (cX5_product_0 l G cy ev K ln Ls hW _ hp440 ok441 qa900 qa901 zi902 kd900 kd901 (b_wid2 bd902 (by decide) (by decide))) (cwV 2 hT (good_V tb_955 tb_952 tb_954 tb_23 tb_109) rfl rfl rfl (by decide +kernel) ⟨Nat.le_of_ble_eq_true rfl, Nat.le_of_ble_eq_true rfl⟩) (pool_preV (ci := 5) hK hE hS hA hw hW kd900 (by decide) rfl) rfl rfl hl.1 rfl (lv_room (Nat.le_of_ble_eq_true rfl)) dX5_sum_49 ⟨Nat.le_of_ble_eq_true rfl, Nat.le_of_ble_eq_true rfl⟩) (fun hp448 H locs hq451 hw hS => ?_)
          obtain ⟨ok449, F450⟩ := hq451
          have hw : PW G cy K ln Ls A hp448 H := hw
          refine lv_aload_n hx hb dX5_sum_52 rfl (lv_at hl 2 rfl) ?_
          refine lv_iload hx hb dX5_sum_53 (lv_at hl 0 rfl) ?_
          refine lv_ineg hx hb dX5_sum_55 (lv_topi (fun zi453 ea454 => ?_))
          refine kq_v hw hS hA (va_runV (As := [.int zi453]) (rest := []) ⟨hx, hb, hml, hown, hT⟩ (cX2_add_0 l G cy ev K ln Ls hW _ hp448 ok449 qa901 zi453 kd901) (cwV 1 hT (good_V tb_404 tb_960 tb_402 tb_403 tb_108) rfl rfl rfl (by decide +kernel) ⟨Nat.le_of_ble_eq_true rfl, Nat.le_of_ble_eq_true rfl⟩) (pool_preV (ci := 2) hK hE hS hA hw hW kd901 (by decide) rfl) rfl rfl hl.1 rfl (lv_room (Nat.le_of_ble_eq_true rfl)) dX5_sum_56 ⟨Nat.le_of_ble_eq_true rfl, Nat.le_of_ble_eq_true rfl⟩) (fun hp455 H locs hq458 hw hS => ?_)
          obtain ⟨ok456, F457⟩ := hq458
          have hw : PW G cy K ln Ls A hp455 H := hw
          obtain ⟨zi460, ea461⟩ : ∃ z : Int32, z = zi302 + 1 := ⟨_, rfl⟩
          have bd462 : (1 : Int) ≤ zi460.toInt ∧ zi460.toInt ≤ 401 := b_iadd ea461 bd435 bc_1 (by decide) (by decide) (by decide) (by decide)
          have qe463 : zi460.toInt = (zi302 : Int32).toInt + (1 : Int32).toInt := e_iadd ea461 bd435 bc_1 (by decide) (by decide)
          have qe464 : zi460.toInt = zi302.toInt + 1 := by have ha : (1 : Int32).toInt = 1 := (by decide); rw [ha] at qe463; exact qe463
          refine lv_iinc (v := zi460) (lv' := [(3, .int zi460), (4, .int zi437), (0, .ref qa900), (1, .ref qa901), (2, .int zi902)]) hx hb dX5_sum_59 hl (k := 4) rfl ea461.symm (by decide) rfl (fun ls hl => ?_)
          refine lv_goto (tgt := 8) hx hb dX5_sum_62 (by decide) ?_
          exact ih430 hp455 zi460 _ _ ls (by have := hm432; have := qe464; omega) ok456 (Fr.tr (Fr.tr (Fr.tr (Fr.tr (Fr.rf) F304 (by decide)) F442 (by decide)) F450 (by decide)) F457 (by decide)) (b_wid2 bd462 (by decide) (by decide)) (lv_sub hl [2, 3, 4, 0] rfl) hw hS
        · skip
          refine lv_aload_n hx hb dX5_sum_24 rfl (lv_at hl 0 rfl) ?_
          refine p_get (ci := 5) (v := .int zi437) (C := RX5) (T := TX5) (N := 7) hx hb hT iw_X5 hown hK hw hW kd900 (by decide) rfl rfl 3 (by decide) eq436 (hT _ tb_374) (fun _ h9 => h9) dX5_sum_25 ?_
          refine lv_bipush (v := 45) hx hb dX5_sum_28 (by decide) ?_
          refine lv_icmp_ne (tgt := 65) hx hb dX5_sum_30 (by decide) (fun cn465 => ?_) (fun cn465 => ?_)
          · skip
            exact jn428 hp303 _ _ ls ok305 (Fr.tr (Fr.rf) F304 (by decide)) (lv_sub hl [] rfl) hw hS
          · skip
            have bd466 : (45 : Int) ≤ zi437.toInt ∧ zi437.toInt ≤ 45 := r_eq_x cn465 (b_all zi437) bc_45 (by decide) (by decide)
            refine lv_aload_n hx hb dX5_sum_33 rfl (lv_at hl 0 rfl) ?_
            refine p_get (ci := 5) (v := .int zi437) (C := RX5) (T := TX5) (N := 7) hx hb hT iw_X5 hown hK hw hW kd900 (by decide) rfl rfl 3 (by decide) eq436 (hT _ tb_374) (fun _ h9 => h9) dX5_sum_34 ?_
            refine lv_istore (lv' := [(4, .int zi437), (0, .ref qa900), (1, .ref qa901), (2, .int zi902), (3, .int zi302)]) hx hb dX5_sum_37 hl (by decide) rfl (fun ls hl => ?_)
            refine lv_aload_n hx hb dX5_sum_39 rfl (lv_at hl 1 rfl) ?_
            refine lv_iload hx hb dX5_sum_40 (lv_at hl 0 rfl) ?_
            refine kq_i hw hS hA (va_runV (As := [.int zi437]) (rest := []) ⟨hx, hb, hml, hown, hT⟩ (cX5_accept_0 l G cy ev K ln Ls hW _ hp303 ok305 qa900 zi437 kd900) (cwV 1 hT (good_V tb_854 tb_851 tb_853 tb_8 tb_109) rfl rfl rfl (by decide +kernel) ⟨Nat.le_of_ble_eq_true rfl, Nat.le_of_ble_eq_true rfl⟩) (pool_preV (ci := 5) hK hE hS hA hw hW kd900 (by decide) rfl) rfl rfl hl.1 rfl (lv_room (Nat.le_of_ble_eq_true rfl)) dX5_sum_42 ⟨Nat.le_of_ble_eq_true rfl, Nat.le_of_ble_eq_true rfl⟩) (fun zi471 hp467 H locs hq470 hw hS => ?_)
            obtain ⟨ok468, F469, bd472, hc473, hc474⟩ := hq470
            have hw : PW G cy K ln Ls A hp467 H := hw
            refine lv_pop hx hb dX5_sum_45 rfl ?_
            refine lv_aload_n hx hb dX5_sum_46 rfl (lv_at hl 1 rfl) ?_
            refine lv_aload_n hx hb dX5_sum_47 rfl (lv_at hl 2 rfl) ?_
            refine lv_iload_n hx hb dX5_sum_48 rfl (lv_at hl 3 rfl) ?_
            refine kq_v hw hS hA (va_runV (As := [.ref qa901, .int zi902]) (rest := []) ⟨hx, hb, hml, hown, hT⟩ (cX5_product_0 l G cy ev K ln Ls hW _ hp467 ok468 qa900 qa901 zi902 kd900 kd901 (b_wid2 bd902 (by decide) (by decide))) (cwV 2 hT (good_V tb_955 tb_952 tb_954 tb_23 tb_109) rfl rfl rfl (by decide +kernel) ⟨Nat.le_of_ble_eq_true rfl, Nat.le_of_ble_eq_true rfl⟩) (pool_preV (ci := 5) hK hE hS hA hw hW kd900 (by decide) rfl) rfl rfl hl.1 rfl (lv_room (Nat.le_of_ble_eq_true rfl)) dX5_sum_49 ⟨Nat.le_of_ble_eq_true rfl, Nat.le_of_ble_eq_true rfl⟩) (fun hp475 H locs hq478 hw hS => ?_)
            obtain ⟨ok476, F477⟩ := hq478
            have hw : PW G cy K ln Ls A hp475 H := hw
            refine lv_aload_n hx hb dX5_sum_52 rfl (lv_at hl 2 rfl) ?_
            refine lv_iload hx hb dX5_sum_53 (lv_at hl 0 rfl) ?_
            refine lv_ineg hx hb dX5_sum_55 (lv_topi (fun zi480 ea481 => ?_))
            refine kq_v hw hS hA (va_runV (As := [.int zi480]) (rest := []) ⟨hx, hb, hml, hown, hT⟩ (cX2_add_0 l G cy ev K ln Ls hW _ hp475 ok476 qa901 zi480 kd901) (cwV 1 hT (good_V tb_404 tb_960 tb_402 tb_403 tb_108) rfl rfl rfl (by decide +kernel) ⟨Nat.le_of_ble_eq_true rfl, Nat.le_of_ble_eq_true rfl⟩) (pool_preV (ci := 2) hK hE hS hA hw hW kd901 (by decide) rfl) rfl rfl hl.1 rfl (lv_room (Nat.le_of_ble_eq_true rfl)) dX5_sum_56 ⟨Nat.le_of_ble_eq_true rfl, Nat.le_of_ble_eq_true rfl⟩) (fun hp482 H locs hq485 hw hS => ?_)
            obtain ⟨ok483, F484⟩ := hq485
            have hw : PW G cy K ln Ls A hp482 H := hw
            obtain ⟨zi487, ea488⟩ : ∃ z : Int32, z = zi302 + 1 := ⟨_, rfl⟩
            have bd489 : (1 : Int) ≤ zi487.toInt ∧ zi487.toInt ≤ 401 := b_iadd ea488 bd435 bc_1 (by decide) (by decide) (by decide) (by decide)
            have qe490 : zi487.toInt = (zi302 : Int32).toInt + (1 : Int32).toInt := e_iadd ea488 bd435 bc_1 (by decide) (by decide)
            have qe491 : zi487.toInt = zi302.toInt + 1 := by have ha : (1 : Int32).toInt = 1 := (by decide); rw [ha] at qe490; exact qe490
            refine lv_iinc (v := zi487) (lv' := [(3, .int zi487), (4, .int zi437), (0, .ref qa900), (1, .ref qa901), (2, .int zi902)]) hx hb dX5_sum_59 hl (k := 4) rfl ea488.symm (by decide) rfl (fun ls hl => ?_)
            refine lv_goto (tgt := 8) hx hb dX5_sum_62 (by decide) ?_
            exact ih430 hp482 zi487 _ _ ls (by have := hm432; have := qe491; omega) ok483 (Fr.tr (Fr.tr (Fr.tr (Fr.tr (Fr.rf) F304 (by decide)) F469 (by decide)) F477 (by decide)) F484 (by decide)) (b_wid2 bd489 (by decide) (by decide)) (lv_sub hl [2, 3, 4, 0] rfl) hw hS
  exact lp431 _ hp1 0 _ _ ls (lp_in _) ok2 (Fr.rf) (b_wid2 bc_0 (by decide) (by decide)) (lv_sub hl [1, 2, 3, 0] rfl) hw hS
