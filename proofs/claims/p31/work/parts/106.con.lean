set_option maxRecDepth 100000 in
set_option maxHeartbeats 4000000 in
theorem cX5_all_0 (l : Launch) (G : va_G) (cy : Nat → ClassId) (ev : Ew) (K ln : Nat → Nat) (Ls : List Nat) (hW : SW K ln Ls) (sz : Nat) (hp0 : Nat → Nat → Value) (ok0 : Ok K hp0) (qa900 : Nat) (zi901 : Int32) (kd900 : K qa900 = 6) (bd901 : ((6 : Int) ≤ zi901.toInt ∧ zi901.toInt ≤ 6)) : Met l yX5_all (WS yX5_all cX5_all 5 (some .long)) { frames := 3, cells := 0, slots := 0, locals := 71 } (PB2 [.ref qa900, .int zi901] sz G cy ev (va_pl Ls (cellOf cy K ln hp0))) (QBl (S := (Nat → Nat → Value)) (fun (r : Int64) (u : (Nat → Nat → Value)) => Ok K u ∧ Fr [6002, 6003, 6004, 6005, 6006] K hp0 u) G (fun u => va_pl Ls (cellOf cy K ln u)) (va_A (va_pl Ls (cellOf cy K ln hp0)) sz)) 0 0 (va_A (va_pl Ls (cellOf cy K ln hp0)) sz) := by
  refine met_of2 (y := yX5_all) (L := 5) (av := [.ref qa900, .int zi901]) (Qc := fun A => QBl (S := (Nat → Nat → Value)) (fun (r : Int64) (u : (Nat → Nat → Value)) => Ok K u ∧ Fr [6002, 6003, 6004, 6005, 6006] K hp0 u) G (fun u => va_pl Ls (cellOf cy K ln u)) A) (plainFor_of_name (by decide)) (Nat.le_of_ble_eq_true rfl) ?_
  intro p e s m below meth c hsz hx hb hr hml hown hT hlocks hin hK A hA hE hw hS ls hl
  have hw : PW G cy K ln Ls A hp0 s.heap := hw
  have hown : s.vm.findClass "LieClock$Parser" = some m.cls := hown
  have hl : lv_has ls 5 [(0, .ref qa900), (1, .int zi901)] := hl
  obtain ⟨Q, hQ⟩ : ∃ Q : State → Prop, Q = MQ below (QBl (S := (Nat → Nat → Value)) (fun (r : Int64) (u : (Nat → Nat → Value)) => Ok K u ∧ Fr [6002, 6003, 6004, 6005, 6006] K hp0 u) G (fun u => va_pl Ls (cellOf cy K ln u)) A) ([.ref qa900, .int zi901] : List Value).toArray s 0 0 A := ⟨_, rfl⟩
  rw [← hQ]
  refine lv_aload_n hx hb dX5_all_0 rfl (lv_at hl 0 rfl) ?_
  refine lv_iload_n hx hb dX5_all_1 rfl (lv_at hl 1 rfl) ?_
  refine kq_l hw hS hA (va_runV (As := [.int zi901]) (rest := []) ⟨hx, hb, hml, hown, hT⟩ (cX5_literal_0 l G cy ev K ln Ls hW _ hp0 ok0 qa900 zi901 kd900 (b_wid2 bd901 (by decide) (by decide))) (cwV 1 hT (good_V tb_918 tb_915 tb_917 tb_17 tb_109) rfl rfl rfl (by decide +kernel) ⟨Nat.le_of_ble_eq_true rfl, Nat.le_of_ble_eq_true rfl⟩) (pool_preV (ci := 5) hK hE hS hA hw hW kd900 (by decide) rfl) rfl rfl hl.1 rfl (lv_room (Nat.le_of_ble_eq_true rfl)) dX5_all_2 ⟨Nat.le_of_ble_eq_true rfl, Nat.le_of_ble_eq_true rfl⟩) (fun wl5 hp1 H locs hq4 hw hS => ?_)
  obtain ⟨ok2, F3⟩ := hq4
  have hw : PW G cy K ln Ls A hp1 H := hw
  refine lv_lstore_n (lv' := [(2, .long wl5), (0, .ref qa900), (1, .int zi901)]) hx hb dX5_all_5 rfl hl (by decide) rfl (fun ls hl => ?_)
  refine lv_iconst (v := 0) hx hb dX5_all_6 (by decide) ?_
  refine lv_istore (lv' := [(4, .int 0), (2, .long wl5), (0, .ref qa900), (1, .int zi901)]) hx hb dX5_all_7 hl (by decide) rfl (fun ls hl => ?_)
  have jn229 : ∀ (hp226 : Nat → Nat → Value) (wl225 : Int64) (H : Heap) (locs : List Loc) (ls : Array Slot), Ok K hp226 → Fr [6002, 6003, 6004, 6005, 6006] K hp1 hp226 → lv_has ls 5 [(2, .long wl225)] → PW G cy K ln Ls A hp226 H → va_S A s.heap H locs → W p l e ({ frames := 3, cells := 0, slots := 0, locals := 71 } : Room) s m ([.ref qa900, .int zi901] : List Value).toArray below meth c H locs 0 0 Q (F0 m 40 ls []) := by
    intro hp226 wl225 H locs ls ok228 F227 hl hw hS
    refine lv_lload_n hx hb dX5_all_40 rfl (lv_at hl 0 rfl) ?_
    rw [hQ]
    exact kz_l hx hb hr hlocks hS hp226 hw ⟨ok228, (Fr.tr (Fr.tr (Fr.rf) F3 (by decide)) F227 (by decide))⟩ (Nat.le_of_ble_eq_true rfl) (Nat.le_of_ble_eq_true rfl) dX5_all_41
  have lp232 : ∀ (n230 : Nat) (hp163 : Nat → Nat → Value) (wl161 : Int64) (zi162 : Int32) (H : Heap) (locs : List Loc) (ls : Array Slot), 401 - zi162.toInt < (n230 : Int) → Ok K hp163 → Fr [6002, 6003, 6004, 6005, 6006] K hp1 hp163 → ((0 : Int) ≤ zi162.toInt ∧ zi162.toInt ≤ 401) → lv_has ls 5 [(0, .ref qa900), (1, .int zi901), (2, .long wl161), (4, .int zi162)] → PW G cy K ln Ls A hp163 H → va_S A s.heap H locs → W p l e ({ frames := 3, cells := 0, slots := 0, locals := 71 } : Room) s m ([.ref qa900, .int zi901] : List Value).toArray below meth c H locs 0 0 Q (F0 m 9 ls []) := by
    intro n230
    induction n230 with
    | zero =>
      intro hp163 wl161 zi162 H locs ls hm233 ok165 F164 bd166 hl hw hS
      exact absurd hm233 (by have := bd166; omega)
    | succ n230 ih231 =>
      intro hp163 wl161 zi162 H locs ls hm233 ok165 F164 bd166 hl hw hS
      refine lv_iload hx hb dX5_all_9 (lv_at hl 3 rfl) ?_
      refine lv_sipush (v := 400) hx hb dX5_all_11 (by decide) ?_
      refine lv_icmp_gt (tgt := 40) hx hb dX5_all_14 (by decide) (fun cn234 => ?_) (fun cn234 => ?_)
      · skip
        have bd235 : (401 : Int) ≤ zi162.toInt ∧ zi162.toInt ≤ 401 := r_lt_y cn234 bc_400 bd166 (by decide) (by decide)
        exact jn229 hp163 wl161 _ _ ls ok165 (Fr.tr (Fr.rf) F164 (by decide)) (lv_sub hl [2] rfl) hw hS
      · skip
        have bd236 : (0 : Int) ≤ zi162.toInt ∧ zi162.toInt ≤ 400 := r_le_x (Int32.not_lt.mp cn234) bd166 bc_400 (by decide) (by decide)
        refine lv_aload_n hx hb dX5_all_17 rfl (lv_at hl 0 rfl) ?_
        refine lv_bipush (v := 112) hx hb dX5_all_18 (by decide) ?_
        refine kq_i hw hS hA (va_runV (As := [.int 112]) (rest := []) ⟨hx, hb, hml, hown, hT⟩ (cX5_accept_0 l G cy ev K ln Ls hW _ hp163 ok165 qa900 112 kd900) (cwV 1 hT (good_V tb_854 tb_851 tb_853 tb_8 tb_109) rfl rfl rfl (by decide +kernel) ⟨Nat.le_of_ble_eq_true rfl, Nat.le_of_ble_eq_true rfl⟩) (pool_preV (ci := 5) hK hE hS hA hw hW kd900 (by decide) rfl) rfl rfl hl.1 rfl (lv_room (Nat.le_of_ble_eq_true rfl)) dX5_all_20 ⟨Nat.le_of_ble_eq_true rfl, Nat.le_of_ble_eq_true rfl⟩) (fun zi241 hp237 H locs hq240 hw hS => ?_)
        obtain ⟨ok238, F239, bd242, hc243, hc244⟩ := hq240
        have hw : PW G cy K ln Ls A hp237 H := hw
        rcases b01 bd242 with cn245 | cn245
        · skip
          subst cn245
          refine lv_if_eq (tgt := 40) hx hb dX5_all_23 (by decide) (fun _ => ?_) (fun c => absurd (d_eq bc_0 bc_0) c)
          exact jn229 hp237 wl161 _ _ ls ok238 (Fr.tr (Fr.tr (Fr.rf) F164 (by decide)) F239 (by decide)) (lv_sub hl [2] rfl) hw hS
        · skip
          subst cn245
          obtain ⟨zi246, eq247, bd248⟩ := hc243 rfl
          obtain ⟨zi249, eq250, bd251⟩ := hc244 rfl
          refine lv_if_eq (tgt := 40) hx hb dX5_all_23 (by decide) (fun c => absurd c (d_ne bc_1 bc_0 (by decide))) (fun _ => ?_)
          refine lv_lload_n hx hb dX5_all_26 rfl (lv_at hl 2 rfl) ?_
          refine lv_aload_n hx hb dX5_all_27 rfl (lv_at hl 0 rfl) ?_
          refine lv_iload_n hx hb dX5_all_28 rfl (lv_at hl 1 rfl) ?_
          refine kq_l hw hS hA (va_runV (As := [.int zi901]) (rest := [.long wl161]) ⟨hx, hb, hml, hown, hT⟩ (cX5_literal_0 l G cy ev K ln Ls hW _ hp237 ok238 qa900 zi901 kd900 (b_wid2 bd901 (by decide) (by decide))) (cwV 1 hT (good_V tb_918 tb_915 tb_917 tb_17 tb_109) rfl rfl rfl (by decide +kernel) ⟨Nat.le_of_ble_eq_true rfl, Nat.le_of_ble_eq_true rfl⟩) (pool_preV (ci := 5) hK hE hS hA hw hW kd900 (by decide) rfl) rfl rfl hl.1 rfl (lv_room (Nat.le_of_ble_eq_true rfl)) dX5_all_29 ⟨Nat.le_of_ble_eq_true rfl, Nat.le_of_ble_eq_true rfl⟩) (fun wl256 hp252 H locs hq255 hw hS => ?_)
          obtain ⟨ok253, F254⟩ := hq255
          have hw : PW G cy K ln Ls A hp252 H := hw
          refine lv_land hx hb dX5_all_32 (lv_topl (fun wl257 _ => ?_))
          refine lv_lstore_n (lv' := [(2, .long wl257), (0, .ref qa900), (1, .int zi901), (4, .int zi162)]) hx hb dX5_all_33 rfl hl (by decide) rfl (fun ls hl => ?_)
          obtain ⟨zi258, ea259⟩ : ∃ z : Int32, z = zi162 + 1 := ⟨_, rfl⟩
          have bd260 : (1 : Int) ≤ zi258.toInt ∧ zi258.toInt ≤ 401 := b_iadd ea259 bd236 bc_1 (by decide) (by decide) (by decide) (by decide)
          have qe261 : zi258.toInt = (zi162 : Int32).toInt + (1 : Int32).toInt := e_iadd ea259 bd236 bc_1 (by decide) (by decide)
          have qe262 : zi258.toInt = zi162.toInt + 1 := by have ha : (1 : Int32).toInt = 1 := (by decide); rw [ha] at qe261; exact qe261
          refine lv_iinc (v := zi258) (lv' := [(4, .int zi258), (2, .long wl257), (0, .ref qa900), (1, .int zi901)]) hx hb dX5_all_34 hl (k := 3) rfl ea259.symm (by decide) rfl (fun ls hl => ?_)
          refine lv_goto (tgt := 9) hx hb dX5_all_37 (by decide) ?_
          exact ih231 hp252 wl257 zi258 _ _ ls (by have := hm233; have := qe262; omega) ok253 (Fr.tr (Fr.tr (Fr.tr (Fr.rf) F164 (by decide)) F239 (by decide)) F254 (by decide)) (b_wid2 bd260 (by decide) (by decide)) (lv_sub hl [2, 3, 1, 0] rfl) hw hS
  exact lp232 _ hp1 wl5 0 _ _ ls (lp_in _) ok2 (Fr.rf) (b_wid2 bc_0 (by decide) (by decide)) (lv_sub hl [2, 3, 1, 0] rfl) hw hS

set_option maxRecDepth 100000 in
set_option maxHeartbeats 4000000 in
theorem cX5_cond_0 (l : Launch) (G : va_G) (cy : Nat → ClassId) (ev : Ew) (K ln : Nat → Nat) (Ls : List Nat) (hW : SW K ln Ls) (sz : Nat) (hp0 : Nat → Nat → Value) (ok0 : Ok K hp0) (qa900 : Nat) (zi901 : Int32) (kd900 : K qa900 = 6) (bd901 : ((6 : Int) ≤ zi901.toInt ∧ zi901.toInt ≤ 6)) : Met l yX5_cond (WS yX5_cond cX5_cond 5 (some .long)) { frames := 4, cells := 0, slots := 0, locals := 95 } (PB2 [.ref qa900, .int zi901] sz G cy ev (va_pl Ls (cellOf cy K ln hp0))) (QBl (S := (Nat → Nat → Value)) (fun (r : Int64) (u : (Nat → Nat → Value)) => Ok K u ∧ Fr [6002, 6003, 6004, 6005, 6006] K hp0 u) G (fun u => va_pl Ls (cellOf cy K ln u)) (va_A (va_pl Ls (cellOf cy K ln hp0)) sz)) 0 0 (va_A (va_pl Ls (cellOf cy K ln hp0)) sz) := by
  refine met_of2 (y := yX5_cond) (L := 5) (av := [.ref qa900, .int zi901]) (Qc := fun A => QBl (S := (Nat → Nat → Value)) (fun (r : Int64) (u : (Nat → Nat → Value)) => Ok K u ∧ Fr [6002, 6003, 6004, 6005, 6006] K hp0 u) G (fun u => va_pl Ls (cellOf cy K ln u)) A) (plainFor_of_name (by decide)) (Nat.le_of_ble_eq_true rfl) ?_
  intro p e s m below meth c hsz hx hb hr hml hown hT hlocks hin hK A hA hE hw hS ls hl
  have hw : PW G cy K ln Ls A hp0 s.heap := hw
  have hown : s.vm.findClass "LieClock$Parser" = some m.cls := hown
  have hl : lv_has ls 5 [(0, .ref qa900), (1, .int zi901)] := hl
  obtain ⟨Q, hQ⟩ : ∃ Q : State → Prop, Q = MQ below (QBl (S := (Nat → Nat → Value)) (fun (r : Int64) (u : (Nat → Nat → Value)) => Ok K u ∧ Fr [6002, 6003, 6004, 6005, 6006] K hp0 u) G (fun u => va_pl Ls (cellOf cy K ln u)) A) ([.ref qa900, .int zi901] : List Value).toArray s 0 0 A := ⟨_, rfl⟩
  rw [← hQ]
  refine lv_aload_n hx hb dX5_cond_0 rfl (lv_at hl 0 rfl) ?_
  refine lv_iload_n hx hb dX5_cond_1 rfl (lv_at hl 1 rfl) ?_
  refine kq_l hw hS hA (va_runV (As := [.int zi901]) (rest := []) ⟨hx, hb, hml, hown, hT⟩ (cX5_all_0 l G cy ev K ln Ls hW _ hp0 ok0 qa900 zi901 kd900 (b_wid2 bd901 (by decide) (by decide))) (cwV 1 hT (good_V tb_914 tb_911 tb_913 tb_16 tb_109) rfl rfl rfl (by decide +kernel) ⟨Nat.le_of_ble_eq_true rfl, Nat.le_of_ble_eq_true rfl⟩) (pool_preV (ci := 5) hK hE hS hA hw hW kd900 (by decide) rfl) rfl rfl hl.1 rfl (lv_room (Nat.le_of_ble_eq_true rfl)) dX5_cond_2 ⟨Nat.le_of_ble_eq_true rfl, Nat.le_of_ble_eq_true rfl⟩) (fun wl5 hp1 H locs hq4 hw hS => ?_)
  obtain ⟨ok2, F3⟩ := hq4
  have hw : PW G cy K ln Ls A hp1 H := hw
  refine lv_lstore_n (lv' := [(2, .long wl5), (0, .ref qa900), (1, .int zi901)]) hx hb dX5_cond_5 rfl hl (by decide) rfl (fun ls hl => ?_)
  refine lv_iconst (v := 0) hx hb dX5_cond_6 (by decide) ?_
  refine lv_istore (lv' := [(4, .int 0), (2, .long wl5), (0, .ref qa900), (1, .int zi901)]) hx hb dX5_cond_7 hl (by decide) rfl (fun ls hl => ?_)
  have jn229 : ∀ (hp226 : Nat → Nat → Value) (wl225 : Int64) (H : Heap) (locs : List Loc) (ls : Array Slot), Ok K hp226 → Fr [6002, 6003, 6004, 6005, 6006] K hp1 hp226 → lv_has ls 5 [(2, .long wl225)] → PW G cy K ln Ls A hp226 H → va_S A s.heap H locs → W p l e ({ frames := 4, cells := 0, slots := 0, locals := 95 } : Room) s m ([.ref qa900, .int zi901] : List Value).toArray below meth c H locs 0 0 Q (F0 m 40 ls []) := by
    intro hp226 wl225 H locs ls ok228 F227 hl hw hS
    refine lv_lload_n hx hb dX5_cond_40 rfl (lv_at hl 0 rfl) ?_
    rw [hQ]
    exact kz_l hx hb hr hlocks hS hp226 hw ⟨ok228, (Fr.tr (Fr.tr (Fr.rf) F3 (by decide)) F227 (by decide))⟩ (Nat.le_of_ble_eq_true rfl) (Nat.le_of_ble_eq_true rfl) dX5_cond_41
  have lp232 : ∀ (n230 : Nat) (hp163 : Nat → Nat → Value) (wl161 : Int64) (zi162 : Int32) (H : Heap) (locs : List Loc) (ls : Array Slot), 401 - zi162.toInt < (n230 : Int) → Ok K hp163 → Fr [6002, 6003, 6004, 6005, 6006] K hp1 hp163 → ((0 : Int) ≤ zi162.toInt ∧ zi162.toInt ≤ 401) → lv_has ls 5 [(0, .ref qa900), (1, .int zi901), (2, .long wl161), (4, .int zi162)] → PW G cy K ln Ls A hp163 H → va_S A s.heap H locs → W p l e ({ frames := 4, cells := 0, slots := 0, locals := 95 } : Room) s m ([.ref qa900, .int zi901] : List Value).toArray below meth c H locs 0 0 Q (F0 m 9 ls []) := by
    intro n230
    induction n230 with
    | zero =>
      intro hp163 wl161 zi162 H locs ls hm233 ok165 F164 bd166 hl hw hS
      exact absurd hm233 (by have := bd166; omega)
    | succ n230 ih231 =>
      intro hp163 wl161 zi162 H locs ls hm233 ok165 F164 bd166 hl hw hS
      refine lv_iload hx hb dX5_cond_9 (lv_at hl 3 rfl) ?_
      refine lv_sipush (v := 400) hx hb dX5_cond_11 (by decide) ?_
      refine lv_icmp_gt (tgt := 40) hx hb dX5_cond_14 (by decide) (fun cn234 => ?_) (fun cn234 => ?_)
      · skip
        have bd235 : (401 : Int) ≤ zi162.toInt ∧ zi162.toInt ≤ 401 := r_lt_y cn234 bc_400 bd166 (by decide) (by decide)
        exact jn229 hp163 wl161 _ _ ls ok165 (Fr.tr (Fr.rf) F164 (by decide)) (lv_sub hl [2] rfl) hw hS
      · skip
        have bd236 : (0 : Int) ≤ zi162.toInt ∧ zi162.toInt ≤ 400 := r_le_x (Int32.not_lt.mp cn234) bd166 bc_400 (by decide) (by decide)
        refine lv_aload_n hx hb dX5_cond_17 rfl (lv_at hl 0 rfl) ?_
        refine lv_bipush (v := 111) hx hb dX5_cond_18 (by decide) ?_
        refine kq_i hw hS hA (va_runV (As := [.int 111]) (rest := []) ⟨hx, hb, hml, hown, hT⟩ (cX5_accept_0 l G cy ev K ln Ls hW _ hp163 ok165 qa900 111 kd900) (cwV 1 hT (good_V tb_854 tb_851 tb_853 tb_8 tb_109) rfl rfl rfl (by decide +kernel) ⟨Nat.le_of_ble_eq_true rfl, Nat.le_of_ble_eq_true rfl⟩) (pool_preV (ci := 5) hK hE hS hA hw hW kd900 (by decide) rfl) rfl rfl hl.1 rfl (lv_room (Nat.le_of_ble_eq_true rfl)) dX5_cond_20 ⟨Nat.le_of_ble_eq_true rfl, Nat.le_of_ble_eq_true rfl⟩) (fun zi241 hp237 H locs hq240 hw hS => ?_)
        obtain ⟨ok238, F239, bd242, hc243, hc244⟩ := hq240
        have hw : PW G cy K ln Ls A hp237 H := hw
        rcases b01 bd242 with cn245 | cn245
        · skip
          subst cn245
          refine lv_if_eq (tgt := 40) hx hb dX5_cond_23 (by decide) (fun _ => ?_) (fun c => absurd (d_eq bc_0 bc_0) c)
          exact jn229 hp237 wl161 _ _ ls ok238 (Fr.tr (Fr.tr (Fr.rf) F164 (by decide)) F239 (by decide)) (lv_sub hl [2] rfl) hw hS
        · skip
          subst cn245
          obtain ⟨zi246, eq247, bd248⟩ := hc243 rfl
          obtain ⟨zi249, eq250, bd251⟩ := hc244 rfl
          refine lv_if_eq (tgt := 40) hx hb dX5_cond_23 (by decide) (fun c => absurd c (d_ne bc_1 bc_0 (by decide))) (fun _ => ?_)
          refine lv_lload_n hx hb dX5_cond_26 rfl (lv_at hl 2 rfl) ?_
          refine lv_aload_n hx hb dX5_cond_27 rfl (lv_at hl 0 rfl) ?_
          refine lv_iload_n hx hb dX5_cond_28 rfl (lv_at hl 1 rfl) ?_
          refine kq_l hw hS hA (va_runV (As := [.int zi901]) (rest := [.long wl161]) ⟨hx, hb, hml, hown, hT⟩ (cX5_all_0 l G cy ev K ln Ls hW _ hp237 ok238 qa900 zi901 kd900 (b_wid2 bd901 (by decide) (by decide))) (cwV 1 hT (good_V tb_914 tb_911 tb_913 tb_16 tb_109) rfl rfl rfl (by decide +kernel) ⟨Nat.le_of_ble_eq_true rfl, Nat.le_of_ble_eq_true rfl⟩) (pool_preV (ci := 5) hK hE hS hA hw hW kd900 (by decide) rfl) rfl rfl hl.1 rfl (lv_room (Nat.le_of_ble_eq_true rfl)) dX5_cond_29 ⟨Nat.le_of_ble_eq_true rfl, Nat.le_of_ble_eq_true rfl⟩) (fun wl256 hp252 H locs hq255 hw hS => ?_)
          obtain ⟨ok253, F254⟩ := hq255
          have hw : PW G cy K ln Ls A hp252 H := hw
          refine lv_lor hx hb dX5_cond_32 (lv_topl (fun wl257 _ => ?_))
          refine lv_lstore_n (lv' := [(2, .long wl257), (0, .ref qa900), (1, .int zi901), (4, .int zi162)]) hx hb dX5_cond_33 rfl hl (by decide) rfl (fun ls hl => ?_)
          obtain ⟨zi258, ea259⟩ : ∃ z : Int32, z = zi162 + 1 := ⟨_, rfl⟩
          have bd260 : (1 : Int) ≤ zi258.toInt ∧ zi258.toInt ≤ 401 := b_iadd ea259 bd236 bc_1 (by decide) (by decide) (by decide) (by decide)
          have qe261 : zi258.toInt = (zi162 : Int32).toInt + (1 : Int32).toInt := e_iadd ea259 bd236 bc_1 (by decide) (by decide)
          have qe262 : zi258.toInt = zi162.toInt + 1 := by have ha : (1 : Int32).toInt = 1 := (by decide); rw [ha] at qe261; exact qe261
          refine lv_iinc (v := zi258) (lv' := [(4, .int zi258), (2, .long wl257), (0, .ref qa900), (1, .int zi901)]) hx hb dX5_cond_34 hl (k := 3) rfl ea259.symm (by decide) rfl (fun ls hl => ?_)
          refine lv_goto (tgt := 9) hx hb dX5_cond_37 (by decide) ?_
          exact ih231 hp252 wl257 zi258 _ _ ls (by have := hm233; have := qe262; omega) ok253 (Fr.tr (Fr.tr (Fr.tr (Fr.rf) F164 (by decide)) F239 (by decide)) F254 (by decide)) (b_wid2 bd260 (by decide) (by decide)) (lv_sub hl [2, 3, 1, 0] rfl) hw hS
  exact lp232 _ hp1 wl5 0 _ _ ls (lp_in _) ok2 (Fr.rf) (b_wid2 bc_0 (by decide) (by decide)) (lv_sub hl [2, 3, 1, 0] rfl) hw hS

set_option maxRecDepth 100000 in
set_option maxHeartbeats 4000000 in
theorem cX5_literal_1 (l : Launch) (G : va_G) (cy : Nat → ClassId) (ev : Ew) (K ln : Nat → Nat) (Ls : List Nat) (hW : SW K ln Ls) (sz : Nat) (hp0 : Nat → Nat → Value) (ok0 : Ok K hp0) (qa900 : Nat) (zi901 : Int32) (kd900 : K qa900 = 6) (bd901 : ((5 : Int) ≤ zi901.toInt ∧ zi901.toInt ≤ 5)) : Met l yX5_literal (WS yX5_literal cX5_literal 6 (some .long)) { frames := 5, cells := 0, slots := 0, locals := 119 } (PB2 [.ref qa900, .int zi901] sz G cy ev (va_pl Ls (cellOf cy K ln hp0))) (QBl (S := (Nat → Nat → Value)) (fun (r : Int64) (u : (Nat → Nat → Value)) => Ok K u ∧ Fr [6002, 6003, 6004, 6005, 6006] K hp0 u) G (fun u => va_pl Ls (cellOf cy K ln u)) (va_A (va_pl Ls (cellOf cy K ln hp0)) sz)) 0 0 (va_A (va_pl Ls (cellOf cy K ln hp0)) sz) := by
  refine met_of2 (y := yX5_literal) (L := 6) (av := [.ref qa900, .int zi901]) (Qc := fun A => QBl (S := (Nat → Nat → Value)) (fun (r : Int64) (u : (Nat → Nat → Value)) => Ok K u ∧ Fr [6002, 6003, 6004, 6005, 6006] K hp0 u) G (fun u => va_pl Ls (cellOf cy K ln u)) A) (plainFor_of_name (by decide)) (Nat.le_of_ble_eq_true rfl) ?_
  intro p e s m below meth c hsz hx hb hr hml hown hT hlocks hin hK A hA hE hw hS ls hl
  have hw : PW G cy K ln Ls A hp0 s.heap := hw
  have hown : s.vm.findClass "LieClock$Parser" = some m.cls := hown
  have hl : lv_has ls 6 [(0, .ref qa900), (1, .int zi901)] := hl
  obtain ⟨Q, hQ⟩ : ∃ Q : State → Prop, Q = MQ below (QBl (S := (Nat → Nat → Value)) (fun (r : Int64) (u : (Nat → Nat → Value)) => Ok K u ∧ Fr [6002, 6003, 6004, 6005, 6006] K hp0 u) G (fun u => va_pl Ls (cellOf cy K ln u)) A) ([.ref qa900, .int zi901] : List Value).toArray s 0 0 A := ⟨_, rfl⟩
  rw [← hQ]
  refine lv_iconst (v := 0) hx hb dX5_literal_0 (by decide) ?_
  refine lv_istore_n (lv' := [(2, .int 0), (0, .ref qa900), (1, .int zi901)]) hx hb dX5_literal_1 rfl hl (by decide) rfl (fun ls hl => ?_)
  refine lv_iconst (v := 0) hx hb dX5_literal_2 (by decide) ?_
  refine lv_istore_n (lv' := [(3, .int 0), (2, .int 0), (0, .ref qa900), (1, .int zi901)]) hx hb dX5_literal_3 rfl hl (by decide) rfl (fun ls hl => ?_)
  have jn236 : ∀ (hp232 : Nat → Nat → Value) (zi231 : Int32) (H : Heap) (locs : List Loc) (ls : Array Slot), Ok K hp232 → Fr [6002, 6003, 6004] K hp0 hp232 → ((0 : Int) ≤ zi231.toInt ∧ zi231.toInt ≤ 1) → lv_has ls 6 [(0, .ref qa900), (1, .int zi901), (2, .int zi231)] → PW G cy K ln Ls A hp232 H → va_S A s.heap H locs → W p l e ({ frames := 5, cells := 0, slots := 0, locals := 119 } : Room) s m ([.ref qa900, .int zi901] : List Value).toArray below meth c H locs 0 0 Q (F0 m 36 ls []) := by
    intro hp232 zi231 H locs ls ok234 F233 bd235 hl hw hS
    refine lv_lconst (v := 0) hx hb dX5_literal_36 (by decide) ?_
    refine lv_lstore_n (lv' := [(3, .long 0), (0, .ref qa900), (1, .int zi901), (2, .int zi231)]) hx hb dX5_literal_37 rfl hl (by decide) rfl (fun ls hl => ?_)
    refine lv_aload_n hx hb dX5_literal_38 rfl (lv_at hl 1 rfl) ?_
    obtain ⟨zi238, eq237⟩ := rd_6003 ok234 kd900
    refine p_get (ci := 5) (v := .int zi238) (C := RX5) (T := TX5) (N := 7) hx hb hT iw_X5 hown hK hw hW kd900 (by decide) rfl rfl 3 (by decide) eq237 (hT _ tb_374) (fun _ h9 => h9) dX5_literal_39 ?_
    refine lv_bipush (v := 40) hx hb dX5_literal_42 (by decide) ?_
    have jn319 : ∀ (hp316 : Nat → Nat → Value) (wl315 : Int64) (H : Heap) (locs : List Loc) (ls : Array Slot), Ok K hp316 → Fr [6002, 6003, 6004, 6005, 6006] K hp232 hp316 → lv_has ls 6 [(2, .int zi231), (3, .long wl315)] → PW G cy K ln Ls A hp316 H → va_S A s.heap H locs → W p l e ({ frames := 5, cells := 0, slots := 0, locals := 119 } : Room) s m ([.ref qa900, .int zi901] : List Value).toArray below meth c H locs 0 0 Q (F0 m 113 ls []) := by
      intro hp316 wl315 H locs ls ok318 F317 hl hw hS
      refine lv_iload_n hx hb dX5_literal_113 rfl (lv_at hl 0 rfl) ?_
      refine lv_if_eq (tgt := 125) hx hb dX5_literal_114 (by decide) (fun cn320 => ?_) (fun cn320 => ?_)
      · skip
        have bd321 : (0 : Int) ≤ zi231.toInt ∧ zi231.toInt ≤ 0 := r_eq_x cn320 bd235 bc_0 (by decide) (by decide)
        refine lv_lload_n hx hb dX5_literal_125 rfl (lv_at hl 1 rfl) ?_
        rw [hQ]
        exact kz_l hx hb hr hlocks hS hp316 hw ⟨ok318, (Fr.tr (Fr.tr (Fr.rf) F233 (by decide)) F317 (by decide))⟩ (Nat.le_of_ble_eq_true rfl) (Nat.le_of_ble_eq_true rfl) dX5_literal_126
      · skip
        have bd322 : (1 : Int) ≤ zi231.toInt ∧ zi231.toInt ≤ 1 := r_ne_lo cn320 bd235 (toi bc_0) (by decide) (by decide)
        refine lv_lload_n hx hb dX5_literal_117 rfl (lv_at hl 1 rfl) ?_
        refine lv_ldc2 (v := (-1)) hx hb hown (hT _ tb_925) dX5_literal_118 ?_
        refine lv_lxor hx hb dX5_literal_121 (lv_topl (fun wl323 _ => ?_))
        refine lv_goto (tgt := 126) hx hb dX5_literal_122 (by decide) ?_
        rw [hQ]
        exact kz_l hx hb hr hlocks hS hp316 hw ⟨ok318, (Fr.tr (Fr.tr (Fr.rf) F233 (by decide)) F317 (by decide))⟩ (Nat.le_of_ble_eq_true rfl) (Nat.le_of_ble_eq_true rfl) dX5_literal_126
    refine lv_icmp_ne (tgt := 72) hx hb dX5_literal_44 (by decide) (fun cn239 => ?_) (fun cn239 => ?_)
    · skip
      refine lv_aload_n hx hb dX5_literal_72 rfl (lv_at hl 1 rfl) ?_
      obtain ⟨qa325, eq324, kd326⟩ := rd_6001 ok234 kd900
      refine p_get (ci := 5) (v := .ref qa325) (C := RX5) (T := TX5) (N := 7) hx hb hT iw_X5 hown hK hw hW kd900 (by decide) rfl rfl 1 (by decide) eq324 (hT _ tb_372) (fun _ h9 => h9) dX5_literal_73 ?_
      refine lv_aload_n hx hb dX5_literal_76 rfl (lv_at hl 1 rfl) ?_
      refine lv_iconst (v := 2) hx hb dX5_literal_77 (by decide) ?_
      refine kq_l hw hS hA (va_runV (As := [.int 2]) (rest := [.ref qa325]) ⟨hx, hb, hml, hown, hT⟩ (cX5_take_0 l G cy ev K ln Ls hW _ hp232 ok234 qa900 2 kd900) (cwV 1 hT (good_V tb_862 tb_859 tb_861 tb_10 tb_109) rfl rfl rfl (by decide +kernel) ⟨Nat.le_of_ble_eq_true rfl, Nat.le_of_ble_eq_true rfl⟩) (pool_preV (ci := 5) hK hE hS hA hw hW kd900 (by decide) rfl) rfl rfl hl.1 rfl (lv_room (Nat.le_of_ble_eq_true rfl)) dX5_literal_78 ⟨Nat.le_of_ble_eq_true rfl, Nat.le_of_ble_eq_true rfl⟩) (fun wl331 hp327 H locs hq330 hw hS => ?_)
      obtain ⟨ok328, F329⟩ := hq330
      have hw : PW G cy K ln Ls A hp327 H := hw
      refine kq_i hw hS hA (va_runV (As := [.long wl331]) (rest := []) ⟨hx, hb, hml, hown, hT⟩ (cX10_factNamed_0 l G cy ev K ln Ls hW _ hp327 ok328 qa325 wl331 kd326) (cwV 1 hT (good_V tb_870 tb_923 tb_868 tb_869 tb_107) rfl rfl rfl (by decide +kernel) ⟨Nat.le_of_ble_eq_true rfl, Nat.le_of_ble_eq_true rfl⟩) (pool_preV (ci := 10) hK hE hS hA hw hW kd326 (by decide) rfl) rfl rfl hl.1 rfl (lv_room (Nat.le_of_ble_eq_true rfl)) dX5_literal_81 ⟨Nat.le_of_ble_eq_true rfl, Nat.le_of_ble_eq_true rfl⟩) (fun zi336 hp332 H locs hq335 hw hS => ?_)
      obtain ⟨ok333, F334, bd337⟩ := hq335
      obtain rfl : hp327 = hp332 := (Fr.nil F334).symm
      have hw : PW G cy K ln Ls A hp327 H := hw
      refine lv_istore (lv' := [(5, .int zi336), (3, .long 0), (0, .ref qa900), (1, .int zi901), (2, .int zi231)]) hx hb dX5_literal_84 hl (by decide) rfl (fun ls hl => ?_)
      refine lv_iload hx hb dX5_literal_86 (lv_at hl 0 rfl) ?_
      refine lv_if_lt (tgt := 108) hx hb dX5_literal_88 (by decide) (fun cn338 => ?_) (fun cn338 => ?_)
      · skip
        have bd339 : (-1 : Int) ≤ zi336.toInt ∧ zi336.toInt ≤ -1 := r_lt_x cn338 bd337 bc_0 (by decide) (by decide)
        refine lv_aload_n hx hb dX5_literal_108 rfl (lv_at hl 2 rfl) ?_
        refine lv_iconst (v := 4) hx hb dX5_literal_109 (by decide) ?_
        refine kq_v hw hS hA (va_runV (As := [.int 4]) (rest := []) ⟨hx, hb, hml, hown, hT⟩ (cX5_failSoftly_0 l G cy ev K ln Ls hW _ hp327 ok328 qa900 4 kd900) (cwV 1 hT (good_V tb_881 tb_878 tb_880 tb_11 tb_109) rfl rfl rfl (by decide +kernel) ⟨Nat.le_of_ble_eq_true rfl, Nat.le_of_ble_eq_true rfl⟩) (pool_preV (ci := 5) hK hE hS hA hw hW kd900 (by decide) rfl) rfl rfl hl.1 rfl (lv_room (Nat.le_of_ble_eq_true rfl)) dX5_literal_110 ⟨Nat.le_of_ble_eq_true rfl, Nat.le_of_ble_eq_true rfl⟩) (fun hp340 H locs hq343 hw hS => ?_)
        obtain ⟨ok341, F342⟩ := hq343
        have hw : PW G cy K ln Ls A hp340 H := hw
        exact jn319 hp340 0 _ _ ls ok341 (Fr.tr (Fr.tr (Fr.rf) F329 (by decide)) F342 (by decide)) (lv_sub hl [4, 1] rfl) hw hS
      · skip
        have bd345 : (0 : Int) ≤ zi336.toInt ∧ zi336.toInt ≤ 5 := r_le_y (Int32.not_lt.mp cn338) bc_0 bd337 (by decide) (by decide)
        refine lv_iload hx hb dX5_literal_91 (lv_at hl 0 rfl) ?_
        refine lv_bipush (v := 6) hx hb dX5_literal_93 (by decide) ?_
        refine lv_icmp_ge (tgt := 108) hx hb dX5_literal_95 (by decide) (fun c => absurd c (d_nle bc_6 bd345 (by decide))) (fun _ => ?_)
        refine va_getsN hx hb hE.2.1 hS hown (hK.fl nw_820) (fun _ h9 => h9) dX5_literal_98 ?_
        refine lv_iload hx hb dX5_literal_101 (lv_at hl 0 rfl) ?_
        obtain ⟨wl346, _⟩ : ∃ w : Int64, w = ev.2.2 (zi336 : Int32).toNatClampNeg := ⟨_, rfl⟩
        refine va_tl (v := .long (ev.2.2 (zi336 : Int32).toNatClampNeg)) hx hb hE.2.2 hS (vp_b bd345 (by decide) (by decide)) rfl dX5_literal_103 (lv_topl (fun wl346x _ => ?_))
        refine lv_lstore_n (lv' := [(3, .long wl346x), (5, .int zi336), (0, .ref qa900), (1, .int zi901), (2, .int zi231)]) hx hb dX5_literal_104 rfl hl (by decide) rfl (fun ls hl => ?_)
        refine lv_goto (tgt := 113) hx hb dX5_literal_105 (by decide) ?_
        exact jn319 hp327 wl346x _ _ ls ok328 (Fr.tr (Fr.rf) F329 (by decide)) (lv_sub hl [4, 0] rfl) hw hS
    · skip
      have bd347 : (40 : Int) ≤ zi238.toInt ∧ zi238.toInt ≤ 40 := r_eq_x cn239 (b_all zi238) bc_40 (by decide) (by decide)
      refine lv_aload_n hx hb dX5_literal_47 rfl (lv_at hl 1 rfl) ?_
      refine lv_iload_n hx hb dX5_literal_48 rfl (lv_at hl 2 rfl) ?_
      refine kq_i hw hS hA (va_runV (As := [.int zi901]) (rest := []) ⟨hx, hb, hml, hown, hT⟩ (cX5_enter_5 l G cy ev K ln Ls hW _ hp232 ok234 qa900 zi901 kd900 (b_wid2 bd901 (by decide) (by decide))) (cwV 1 hT (good_V tb_922 tb_919 tb_921 tb_18 tb_109) rfl rfl rfl (by decide +kernel) ⟨Nat.le_of_ble_eq_true rfl, Nat.le_of_ble_eq_true rfl⟩) (pool_preV (ci := 5) hK hE hS hA hw hW kd900 (by decide) rfl) rfl rfl hl.1 rfl (lv_room (Nat.le_of_ble_eq_true rfl)) dX5_literal_49 ⟨Nat.le_of_ble_eq_true rfl, Nat.le_of_ble_eq_true rfl⟩) (fun zi352 hp348 H locs hq351 hw hS => ?_)
      obtain ⟨ok349, F350, bd353, hc354, hc355⟩ := hq351
      have hw : PW G cy K ln Ls A hp348 H := hw
      have jn377 : ∀ (hp374 : Nat → Nat → Value) (wl373 : Int64) (H : Heap) (locs : List Loc) (ls : Array Slot), Ok K hp374 → Fr [6002, 6003, 6004, 6005, 6006] K hp348 hp374 → lv_has ls 6 [(0, .ref qa900), (2, .int zi231), (3, .long wl373)] → PW G cy K ln Ls A hp374 H → va_S A s.heap H locs → W p l e ({ frames := 5, cells := 0, slots := 0, locals := 119 } : Room) s m ([.ref qa900, .int zi901] : List Value).toArray below meth c H locs 0 0 Q (F0 m 63 ls []) := by
        intro hp374 wl373 H locs ls ok376 F375 hl hw hS
        refine lv_aload_n hx hb dX5_literal_63 rfl (lv_at hl 0 rfl) ?_
        refine lv_bipush (v := 41) hx hb dX5_literal_64 (by decide) ?_
        refine kq_v hw hS hA (va_runV (As := [.int 41]) (rest := []) ⟨hx, hb, hml, hown, hT⟩ (cX5_expect_0 l G cy ev K ln Ls hW _ hp374 ok376 qa900 41 kd900) (cwV 1 hT (good_V tb_889 tb_886 tb_888 tb_12 tb_109) rfl rfl rfl (by decide +kernel) ⟨Nat.le_of_ble_eq_true rfl, Nat.le_of_ble_eq_true rfl⟩) (pool_preV (ci := 5) hK hE hS hA hw hW kd900 (by decide) rfl) rfl rfl hl.1 rfl (lv_room (Nat.le_of_ble_eq_true rfl)) dX5_literal_66 ⟨Nat.le_of_ble_eq_true rfl, Nat.le_of_ble_eq_true rfl⟩) (fun hp378 H locs hq381 hw hS => ?_)
        obtain ⟨ok379, F380⟩ := hq381
        have hw : PW G cy K ln Ls A hp378 H := hw
        refine lv_goto (tgt := 113) hx hb dX5_literal_69 (by decide) ?_
        exact jn319 hp378 wl373 _ _ ls ok379 (Fr.tr (Fr.tr (Fr.tr (Fr.rf) F350 (by decide)) F375 (by decide)) F380 (by decide)) (lv_sub hl [1, 2] rfl) hw hS
      rcases b01 bd353 with cn356 | cn356
      · skip
        subst cn356
        refine lv_if_eq (tgt := 63) hx hb dX5_literal_52 (by decide) (fun _ => ?_) (fun c => absurd (d_eq bc_0 bc_0) c)
        exact jn377 hp348 0 _ _ ls ok349 (Fr.rf) (lv_sub hl [1, 3, 0] rfl) hw hS
      · skip
        subst cn356
        obtain ⟨zi383, eq384, bd385⟩ := hc354 rfl
        obtain ⟨zi386, eq387, bd388⟩ := hc355 rfl
        refine lv_if_eq (tgt := 63) hx hb dX5_literal_52 (by decide) (fun c => absurd c (d_ne bc_1 bc_0 (by decide))) (fun _ => ?_)
        refine lv_aload_n hx hb dX5_literal_55 rfl (lv_at hl 1 rfl) ?_
        refine lv_iload_n hx hb dX5_literal_56 rfl (lv_at hl 2 rfl) ?_
        refine lv_iconst (v := 1) hx hb dX5_literal_57 (by decide) ?_
        refine lv_iadd hx hb dX5_literal_58 (lv_topi (fun zi389 ea390 => ?_))
        have bd391 : (6 : Int) ≤ zi389.toInt ∧ zi389.toInt ≤ 6 := b_iadd ea390 bd901 bc_1 (by decide) (by decide) (by decide) (by decide)
        have qe392 : zi389.toInt = (zi901 : Int32).toInt + (1 : Int32).toInt := e_iadd ea390 bd901 bc_1 (by decide) (by decide)
        have qe393 : zi389.toInt = zi901.toInt + 1 := by have ha : (1 : Int32).toInt = 1 := (by decide); rw [ha] at qe392; exact qe392
        refine kq_l hw hS hA (va_runV (As := [.int zi389]) (rest := []) ⟨hx, hb, hml, hown, hT⟩ (cX5_cond_0 l G cy ev K ln Ls hW _ hp348 ok349 qa900 zi389 kd900 (b_wid2 bd391 (by decide) (by decide))) (cwV 1 hT (good_V tb_910 tb_907 tb_909 tb_15 tb_109) rfl rfl rfl (by decide +kernel) ⟨Nat.le_of_ble_eq_true rfl, Nat.le_of_ble_eq_true rfl⟩) (pool_preV (ci := 5) hK hE hS hA hw hW kd900 (by decide) rfl) rfl rfl hl.1 rfl (lv_room (Nat.le_of_ble_eq_true rfl)) dX5_literal_59 ⟨Nat.le_of_ble_eq_true rfl, Nat.le_of_ble_eq_true rfl⟩) (fun wl398 hp394 H locs hq397 hw hS => ?_)
        obtain ⟨ok395, F396⟩ := hq397
        have hw : PW G cy K ln Ls A hp394 H := hw
        refine lv_lstore_n (lv' := [(3, .long wl398), (0, .ref qa900), (1, .int zi901), (2, .int zi231)]) hx hb dX5_literal_62 rfl hl (by decide) rfl (fun ls hl => ?_)
        exact jn377 hp394 wl398 _ _ ls ok395 (Fr.tr (Fr.rf) F396 (by decide)) (lv_sub hl [1, 3, 0] rfl) hw hS
  have lp401 : ∀ (n399 : Nat) (hp164 : Nat → Nat → Value) (zi162 : Int32) (zi163 : Int32) (H : Heap) (locs : List Loc) (ls : Array Slot), 401 - zi163.toInt < (n399 : Int) → Ok K hp164 → Fr [6002, 6003, 6004] K hp0 hp164 → ((0 : Int) ≤ zi162.toInt ∧ zi162.toInt ≤ 1) → ((0 : Int) ≤ zi163.toInt ∧ zi163.toInt ≤ 401) → lv_has ls 6 [(0, .ref qa900), (1, .int zi901), (2, .int zi162), (3, .int zi163)] → PW G cy K ln Ls A hp164 H → va_S A s.heap H locs → W p l e ({ frames := 5, cells := 0, slots := 0, locals := 119 } : Room) s m ([.ref qa900, .int zi901] : List Value).toArray below meth c H locs 0 0 Q (F0 m 4 ls []) := by
    intro n399
    induction n399 with
    | zero =>
      intro hp164 zi162 zi163 H locs ls hm402 ok166 F165 bd167 bd168 hl hw hS
      exact absurd hm402 (by have := bd168; omega)
    | succ n399 ih400 =>
      intro hp164 zi162 zi163 H locs ls hm402 ok166 F165 bd167 bd168 hl hw hS
      refine lv_iload_n hx hb dX5_literal_4 rfl (lv_at hl 3 rfl) ?_
      refine lv_sipush (v := 400) hx hb dX5_literal_5 (by decide) ?_
      refine lv_icmp_gt (tgt := 36) hx hb dX5_literal_8 (by decide) (fun cn403 => ?_) (fun cn403 => ?_)
      · skip
        have bd404 : (401 : Int) ≤ zi163.toInt ∧ zi163.toInt ≤ 401 := r_lt_y cn403 bc_400 bd168 (by decide) (by decide)
        exact jn236 hp164 zi162 _ _ ls ok166 (Fr.tr (Fr.rf) F165 (by decide)) (b_wid2 bd167 (by decide) (by decide)) (lv_sub hl [0, 1, 2] rfl) hw hS
      · skip
        have bd405 : (0 : Int) ≤ zi163.toInt ∧ zi163.toInt ≤ 400 := r_le_x (Int32.not_lt.mp cn403) bd168 bc_400 (by decide) (by decide)
        refine lv_aload_n hx hb dX5_literal_11 rfl (lv_at hl 0 rfl) ?_
        refine lv_bipush (v := 113) hx hb dX5_literal_12 (by decide) ?_
        refine kq_i hw hS hA (va_runV (As := [.int 113]) (rest := []) ⟨hx, hb, hml, hown, hT⟩ (cX5_accept_0 l G cy ev K ln Ls hW _ hp164 ok166 qa900 113 kd900) (cwV 1 hT (good_V tb_854 tb_851 tb_853 tb_8 tb_109) rfl rfl rfl (by decide +kernel) ⟨Nat.le_of_ble_eq_true rfl, Nat.le_of_ble_eq_true rfl⟩) (pool_preV (ci := 5) hK hE hS hA hw hW kd900 (by decide) rfl) rfl rfl hl.1 rfl (lv_room (Nat.le_of_ble_eq_true rfl)) dX5_literal_14 ⟨Nat.le_of_ble_eq_true rfl, Nat.le_of_ble_eq_true rfl⟩) (fun zi410 hp406 H locs hq409 hw hS => ?_)
        obtain ⟨ok407, F408, bd411, hc412, hc413⟩ := hq409
        have hw : PW G cy K ln Ls A hp406 H := hw
        rcases b01 bd411 with cn414 | cn414
        · skip
          subst cn414
          refine lv_if_eq (tgt := 36) hx hb dX5_literal_17 (by decide) (fun _ => ?_) (fun c => absurd (d_eq bc_0 bc_0) c)
          exact jn236 hp406 zi162 _ _ ls ok407 (Fr.tr (Fr.tr (Fr.rf) F165 (by decide)) F408 (by decide)) (b_wid2 bd167 (by decide) (by decide)) (lv_sub hl [0, 1, 2] rfl) hw hS
        · skip
          subst cn414
          obtain ⟨zi415, eq416, bd417⟩ := hc412 rfl
          obtain ⟨zi418, eq419, bd420⟩ := hc413 rfl
          refine lv_if_eq (tgt := 36) hx hb dX5_literal_17 (by decide) (fun c => absurd c (d_ne bc_1 bc_0 (by decide))) (fun _ => ?_)
          refine lv_iload_n hx hb dX5_literal_20 rfl (lv_at hl 2 rfl) ?_
          have jn426 : ∀ (zi424 : Int32) (H : Heap) (locs : List Loc) (ls : Array Slot), ((0 : Int) ≤ zi424.toInt ∧ zi424.toInt ≤ 1) → lv_has ls 6 [(0, .ref qa900), (1, .int zi901), (3, .int zi163)] → PW G cy K ln Ls A hp406 H → va_S A s.heap H locs → W p l e ({ frames := 5, cells := 0, slots := 0, locals := 119 } : Room) s m ([.ref qa900, .int zi901] : List Value).toArray below meth c H locs 0 0 Q (F0 m 29 ls [.int zi424]) := by
            intro zi424 H locs ls bd425 hl hw hS
            refine lv_istore_n (lv' := [(2, .int zi424), (0, .ref qa900), (1, .int zi901), (3, .int zi163)]) hx hb dX5_literal_29 rfl hl (by decide) rfl (fun ls hl => ?_)
            obtain ⟨zi427, ea428⟩ : ∃ z : Int32, z = zi163 + 1 := ⟨_, rfl⟩
            have bd429 : (1 : Int) ≤ zi427.toInt ∧ zi427.toInt ≤ 401 := b_iadd ea428 bd405 bc_1 (by decide) (by decide) (by decide) (by decide)
            have qe430 : zi427.toInt = (zi163 : Int32).toInt + (1 : Int32).toInt := e_iadd ea428 bd405 bc_1 (by decide) (by decide)
            have qe431 : zi427.toInt = zi163.toInt + 1 := by have ha : (1 : Int32).toInt = 1 := (by decide); rw [ha] at qe430; exact qe430
            refine lv_iinc (v := zi427) (lv' := [(3, .int zi427), (2, .int zi424), (0, .ref qa900), (1, .int zi901)]) hx hb dX5_literal_30 hl (k := 3) rfl ea428.symm (by decide) rfl (fun ls hl => ?_)
            refine lv_goto (tgt := 4) hx hb dX5_literal_33 (by decide) ?_
            exact ih400 hp406 zi424 zi427 _ _ ls (by have := hm402; have := qe431; omega) ok407 (Fr.tr (Fr.tr (Fr.rf) F165 (by decide)) F408 (by decide)) (b_wid2 bd425 (by decide) (by decide)) (b_wid2 bd429 (by decide) (by decide)) (lv_sub hl [2, 3, 1, 0] rfl) hw hS
          refine lv_if_ne (tgt := 28) hx hb dX5_literal_21 (by decide) (fun cn421 => ?_) (fun cn421 => ?_)
          · skip
            have bd432 : (1 : Int) ≤ zi162.toInt ∧ zi162.toInt ≤ 1 := r_ne_lo cn421 bd167 (toi bc_0) (by decide) (by decide)
            refine lv_iconst (v := 0) hx hb dX5_literal_28 (by decide) ?_
            exact jn426 0 _ _ ls (b_wid2 bc_0 (by decide) (by decide)) (lv_sub hl [0, 1, 3] rfl) hw hS
          · skip
            have bd433 : (0 : Int) ≤ zi162.toInt ∧ zi162.toInt ≤ 0 := r_eq_x cn421 bd167 bc_0 (by decide) (by decide)
            refine lv_iconst (v := 1) hx hb dX5_literal_24 (by decide) ?_
            refine lv_goto (tgt := 29) hx hb dX5_literal_25 (by decide) ?_
            exact jn426 1 _ _ ls (b_wid2 bc_1 (by decide) (by decide)) (lv_sub hl [0, 1, 3] rfl) hw hS
  exact lp401 _ hp0 0 0 _ _ ls (lp_in _) ok0 (Fr.rf) (b_wid2 bc_0 (by decide) (by decide)) (b_wid2 bc_0 (by decide) (by decide)) (lv_sub hl [2, 3, 1, 0] rfl) hw hS

set_option maxRecDepth 100000 in
set_option maxHeartbeats 4000000 in
theorem cX5_all_1 (l : Launch) (G : va_G) (cy : Nat → ClassId) (ev : Ew) (K ln : Nat → Nat) (Ls : List Nat) (hW : SW K ln Ls) (sz : Nat) (hp0 : Nat → Nat → Value) (ok0 : Ok K hp0) (qa900 : Nat) (zi901 : Int32) (kd900 : K qa900 = 6) (bd901 : ((5 : Int) ≤ zi901.toInt ∧ zi901.toInt ≤ 5)) : Met l yX5_all (WS yX5_all cX5_all 5 (some .long)) { frames := 6, cells := 0, slots := 0, locals := 144 } (PB2 [.ref qa900, .int zi901] sz G cy ev (va_pl Ls (cellOf cy K ln hp0))) (QBl (S := (Nat → Nat → Value)) (fun (r : Int64) (u : (Nat → Nat → Value)) => Ok K u ∧ Fr [6002, 6003, 6004, 6005, 6006] K hp0 u) G (fun u => va_pl Ls (cellOf cy K ln u)) (va_A (va_pl Ls (cellOf cy K ln hp0)) sz)) 0 0 (va_A (va_pl Ls (cellOf cy K ln hp0)) sz) := by
  refine met_of2 (y := yX5_all) (L := 5) (av := [.ref qa900, .int zi901]) (Qc := fun A => QBl (S := (Nat → Nat → Value)) (fun (r : Int64) (u : (Nat → Nat → Value)) => Ok K u ∧ Fr [6002, 6003, 6004, 6005, 6006] K hp0 u) G (fun u => va_pl Ls (cellOf cy K ln u)) A) (plainFor_of_name (by decide)) (Nat.le_of_ble_eq_true rfl) ?_
  intro p e s m below meth c hsz hx hb hr hml hown hT hlocks hin hK A hA hE hw hS ls hl
  have hw : PW G cy K ln Ls A hp0 s.heap := hw
  have hown : s.vm.findClass "LieClock$Parser" = some m.cls := hown
  have hl : lv_has ls 5 [(0, .ref qa900), (1, .int zi901)] := hl
  obtain ⟨Q, hQ⟩ : ∃ Q : State → Prop, Q = MQ below (QBl (S := (Nat → Nat → Value)) (fun (r : Int64) (u : (Nat → Nat → Value)) => Ok K u ∧ Fr [6002, 6003, 6004, 6005, 6006] K hp0 u) G (fun u => va_pl Ls (cellOf cy K ln u)) A) ([.ref qa900, .int zi901] : List Value).toArray s 0 0 A := ⟨_, rfl⟩
  rw [← hQ]
  refine lv_aload_n hx hb dX5_all_0 rfl (lv_at hl 0 rfl) ?_
  refine lv_iload_n hx hb dX5_all_1 rfl (lv_at hl 1 rfl) ?_
  refine kq_l hw hS hA (va_runV (As := [.int zi901]) (rest := []) ⟨hx, hb, hml, hown, hT⟩ (cX5_literal_1 l G cy ev K ln Ls hW _ hp0 ok0 qa900 zi901 kd900 (b_wid2 bd901 (by decide) (by decide))) (cwV 1 hT (good_V tb_918 tb_915 tb_917 tb_17 tb_109) rfl rfl rfl (by decide +kernel) ⟨Nat.le_of_ble_eq_true rfl, Nat.le_of_ble_eq_true rfl⟩) (pool_preV (ci := 5) hK hE hS hA hw hW kd900 (by decide) rfl) rfl rfl hl.1 rfl (lv_room (Nat.le_of_ble_eq_true rfl)) dX5_all_2 ⟨Nat.le_of_ble_eq_true rfl, Nat.le_of_ble_eq_true rfl⟩) (fun wl5 hp1 H locs hq4 hw hS => ?_)
  obtain ⟨ok2, F3⟩ := hq4
  have hw : PW G cy K ln Ls A hp1 H := hw
  refine lv_lstore_n (lv' := [(2, .long wl5), (0, .ref qa900), (1, .int zi901)]) hx hb dX5_all_5 rfl hl (by decide) rfl (fun ls hl => ?_)
  refine lv_iconst (v := 0) hx hb dX5_all_6 (by decide) ?_
  refine lv_istore (lv' := [(4, .int 0), (2, .long wl5), (0, .ref qa900), (1, .int zi901)]) hx hb dX5_all_7 hl (by decide) rfl (fun ls hl => ?_)
  have jn229 : ∀ (hp226 : Nat → Nat → Value) (wl225 : Int64) (H : Heap) (locs : List Loc) (ls : Array Slot), Ok K hp226 → Fr [6002, 6003, 6004, 6005, 6006] K hp1 hp226 → lv_has ls 5 [(2, .long wl225)] → PW G cy K ln Ls A hp226 H → va_S A s.heap H locs → W p l e ({ frames := 6, cells := 0, slots := 0, locals := 144 } : Room) s m ([.ref qa900, .int zi901] : List Value).toArray below meth c H locs 0 0 Q (F0 m 40 ls []) := by
    intro hp226 wl225 H locs ls ok228 F227 hl hw hS
    refine lv_lload_n hx hb dX5_all_40 rfl (lv_at hl 0 rfl) ?_
    rw [hQ]
    exact kz_l hx hb hr hlocks hS hp226 hw ⟨ok228, (Fr.tr (Fr.tr (Fr.rf) F3 (by decide)) F227 (by decide))⟩ (Nat.le_of_ble_eq_true rfl) (Nat.le_of_ble_eq_true rfl) dX5_all_41
  have lp232 : ∀ (n230 : Nat) (hp163 : Nat → Nat → Value) (wl161 : Int64) (zi162 : Int32) (H : Heap) (locs : List Loc) (ls : Array Slot), 401 - zi162.toInt < (n230 : Int) → Ok K hp163 → Fr [6002, 6003, 6004, 6005, 6006] K hp1 hp163 → ((0 : Int) ≤ zi162.toInt ∧ zi162.toInt ≤ 401) → lv_has ls 5 [(0, .ref qa900), (1, .int zi901), (2, .long wl161), (4, .int zi162)] → PW G cy K ln Ls A hp163 H → va_S A s.heap H locs → W p l e ({ frames := 6, cells := 0, slots := 0, locals := 144 } : Room) s m ([.ref qa900, .int zi901] : List Value).toArray below meth c H locs 0 0 Q (F0 m 9 ls []) := by
    intro n230
    induction n230 with
    | zero =>
      intro hp163 wl161 zi162 H locs ls hm233 ok165 F164 bd166 hl hw hS
      exact absurd hm233 (by have := bd166; omega)
    | succ n230 ih231 =>
      intro hp163 wl161 zi162 H locs ls hm233 ok165 F164 bd166 hl hw hS
      refine lv_iload hx hb dX5_all_9 (lv_at hl 3 rfl) ?_
      refine lv_sipush (v := 400) hx hb dX5_all_11 (by decide) ?_
      refine lv_icmp_gt (tgt := 40) hx hb dX5_all_14 (by decide) (fun cn234 => ?_) (fun cn234 => ?_)
      · skip
        have bd235 : (401 : Int) ≤ zi162.toInt ∧ zi162.toInt ≤ 401 := r_lt_y cn234 bc_400 bd166 (by decide) (by decide)
        exact jn229 hp163 wl161 _ _ ls ok165 (Fr.tr (Fr.rf) F164 (by decide)) (lv_sub hl [2] rfl) hw hS
      · skip
        have bd236 : (0 : Int) ≤ zi162.toInt ∧ zi162.toInt ≤ 400 := r_le_x (Int32.not_lt.mp cn234) bd166 bc_400 (by decide) (by decide)
        refine lv_aload_n hx hb dX5_all_17 rfl (lv_at hl 0 rfl) ?_
        refine lv_bipush (v := 112) hx hb dX5_all_18 (by decide) ?_
        refine kq_i hw hS hA (va_runV (As := [.int 112]) (rest := []) ⟨hx, hb, hml, hown, hT⟩ (cX5_accept_0 l G cy ev K ln Ls hW _ hp163 ok165 qa900 112 kd900) (cwV 1 hT (good_V tb_854 tb_851 tb_853 tb_8 tb_109) rfl rfl rfl (by decide +kernel) ⟨Nat.le_of_ble_eq_true rfl, Nat.le_of_ble_eq_true rfl⟩) (pool_preV (ci := 5) hK hE hS hA hw hW kd900 (by decide) rfl) rfl rfl hl.1 rfl (lv_room (Nat.le_of_ble_eq_true rfl)) dX5_all_20 ⟨Nat.le_of_ble_eq_true rfl, Nat.le_of_ble_eq_true rfl⟩) (fun zi241 hp237 H locs hq240 hw hS => ?_)
        obtain ⟨ok238, F239, bd242, hc243, hc244⟩ := hq240
        have hw : PW G cy K ln Ls A hp237 H := hw
        rcases b01 bd242 with cn245 | cn245
        · skip
          subst cn245
          refine lv_if_eq (tgt := 40) hx hb dX5_all_23 (by decide) (fun _ => ?_) (fun c => absurd (d_eq bc_0 bc_0) c)
          exact jn229 hp237 wl161 _ _ ls ok238 (Fr.tr (Fr.tr (Fr.rf) F164 (by decide)) F239 (by decide)) (lv_sub hl [2] rfl) hw hS
        · skip
          subst cn245
          obtain ⟨zi246, eq247, bd248⟩ := hc243 rfl
          obtain ⟨zi249, eq250, bd251⟩ := hc244 rfl
          refine lv_if_eq (tgt := 40) hx hb dX5_all_23 (by decide) (fun c => absurd c (d_ne bc_1 bc_0 (by decide))) (fun _ => ?_)
          refine lv_lload_n hx hb dX5_all_26 rfl (lv_at hl 2 rfl) ?_
          refine lv_aload_n hx hb dX5_all_27 rfl (lv_at hl 0 rfl) ?_
          refine lv_iload_n hx hb dX5_all_28 rfl (lv_at hl 1 rfl) ?_
          refine kq_l hw hS hA (va_runV (As := [.int zi901]) (rest := [.long wl161]) ⟨hx, hb, hml, hown, hT⟩ (cX5_literal_1 l G cy ev K ln Ls hW _ hp237 ok238 qa900 zi901 kd900 (b_wid2 bd901 (by decide) (by decide))) (cwV 1 hT (good_V tb_918 tb_915 tb_917 tb_17 tb_109) rfl rfl rfl (by decide +kernel) ⟨Nat.le_of_ble_eq_true rfl, Nat.le_of_ble_eq_true rfl⟩) (pool_preV (ci := 5) hK hE hS hA hw hW kd900 (by decide) rfl) rfl rfl hl.1 rfl (lv_room (Nat.le_of_ble_eq_true rfl)) dX5_all_29 ⟨Nat.le_of_ble_eq_true rfl, Nat.le_of_ble_eq_true rfl⟩) (fun wl256 hp252 H locs hq255 hw hS => ?_)
          obtain ⟨ok253, F254⟩ := hq255
          have hw : PW G cy K ln Ls A hp252 H := hw
          refine lv_land hx hb dX5_all_32 (lv_topl (fun wl257 _ => ?_))
          refine lv_lstore_n (lv' := [(2, .long wl257), (0, .ref qa900), (1, .int zi901), (4, .int zi162)]) hx hb dX5_all_33 rfl hl (by decide) rfl (fun ls hl => ?_)
          obtain ⟨zi258, ea259⟩ : ∃ z : Int32, z = zi162 + 1 := ⟨_, rfl⟩
          have bd260 : (1 : Int) ≤ zi258.toInt ∧ zi258.toInt ≤ 401 := b_iadd ea259 bd236 bc_1 (by decide) (by decide) (by decide) (by decide)
          have qe261 : zi258.toInt = (zi162 : Int32).toInt + (1 : Int32).toInt := e_iadd ea259 bd236 bc_1 (by decide) (by decide)
          have qe262 : zi258.toInt = zi162.toInt + 1 := by have ha : (1 : Int32).toInt = 1 := (by decide); rw [ha] at qe261; exact qe261
          refine lv_iinc (v := zi258) (lv' := [(4, .int zi258), (2, .long wl257), (0, .ref qa900), (1, .int zi901)]) hx hb dX5_all_34 hl (k := 3) rfl ea259.symm (by decide) rfl (fun ls hl => ?_)
          refine lv_goto (tgt := 9) hx hb dX5_all_37 (by decide) ?_
          exact ih231 hp252 wl257 zi258 _ _ ls (by have := hm233; have := qe262; omega) ok253 (Fr.tr (Fr.tr (Fr.tr (Fr.rf) F164 (by decide)) F239 (by decide)) F254 (by decide)) (b_wid2 bd260 (by decide) (by decide)) (lv_sub hl [2, 3, 1, 0] rfl) hw hS
  exact lp232 _ hp1 wl5 0 _ _ ls (lp_in _) ok2 (Fr.rf) (b_wid2 bc_0 (by decide) (by decide)) (lv_sub hl [2, 3, 1, 0] rfl) hw hS

set_option maxRecDepth 100000 in
set_option maxHeartbeats 4000000 in
theorem cX5_cond_1 (l : Launch) (G : va_G) (cy : Nat → ClassId) (ev : Ew) (K ln : Nat → Nat) (Ls : List Nat) (hW : SW K ln Ls) (sz : Nat) (hp0 : Nat → Nat → Value) (ok0 : Ok K hp0) (qa900 : Nat) (zi901 : Int32) (kd900 : K qa900 = 6) (bd901 : ((5 : Int) ≤ zi901.toInt ∧ zi901.toInt ≤ 5)) : Met l yX5_cond (WS yX5_cond cX5_cond 5 (some .long)) { frames := 7, cells := 0, slots := 0, locals := 168 } (PB2 [.ref qa900, .int zi901] sz G cy ev (va_pl Ls (cellOf cy K ln hp0))) (QBl (S := (Nat → Nat → Value)) (fun (r : Int64) (u : (Nat → Nat → Value)) => Ok K u ∧ Fr [6002, 6003, 6004, 6005, 6006] K hp0 u) G (fun u => va_pl Ls (cellOf cy K ln u)) (va_A (va_pl Ls (cellOf cy K ln hp0)) sz)) 0 0 (va_A (va_pl Ls (cellOf cy K ln hp0)) sz) := by
  refine met_of2 (y := yX5_cond) (L := 5) (av := [.ref qa900, .int zi901]) (Qc := fun A => QBl (S := (Nat → Nat → Value)) (fun (r : Int64) (u : (Nat → Nat → Value)) => Ok K u ∧ Fr [6002, 6003, 6004, 6005, 6006] K hp0 u) G (fun u => va_pl Ls (cellOf cy K ln u)) A) (plainFor_of_name (by decide)) (Nat.le_of_ble_eq_true rfl) ?_
  intro p e s m below meth c hsz hx hb hr hml hown hT hlocks hin hK A hA hE hw hS ls hl
  have hw : PW G cy K ln Ls A hp0 s.heap := hw
  have hown : s.vm.findClass "LieClock$Parser" = some m.cls := hown
  have hl : lv_has ls 5 [(0, .ref qa900), (1, .int zi901)] := hl
  obtain ⟨Q, hQ⟩ : ∃ Q : State → Prop, Q = MQ below (QBl (S := (Nat → Nat → Value)) (fun (r : Int64) (u : (Nat → Nat → Value)) => Ok K u ∧ Fr [6002, 6003, 6004, 6005, 6006] K hp0 u) G (fun u => va_pl Ls (cellOf cy K ln u)) A) ([.ref qa900, .int zi901] : List Value).toArray s 0 0 A := ⟨_, rfl⟩
  rw [← hQ]
  refine lv_aload_n hx hb dX5_cond_0 rfl (lv_at hl 0 rfl) ?_
  refine lv_iload_n hx hb dX5_cond_1 rfl (lv_at hl 1 rfl) ?_
  refine kq_l hw hS hA (va_runV (As := [.int zi901]) (rest := []) ⟨hx, hb, hml, hown, hT⟩ (cX5_all_1 l G cy ev K ln Ls hW _ hp0 ok0 qa900 zi901 kd900 (b_wid2 bd901 (by decide) (by decide))) (cwV 1 hT (good_V tb_914 tb_911 tb_913 tb_16 tb_109) rfl rfl rfl (by decide +kernel) ⟨Nat.le_of_ble_eq_true rfl, Nat.le_of_ble_eq_true rfl⟩) (pool_preV (ci := 5) hK hE hS hA hw hW kd900 (by decide) rfl) rfl rfl hl.1 rfl (lv_room (Nat.le_of_ble_eq_true rfl)) dX5_cond_2 ⟨Nat.le_of_ble_eq_true rfl, Nat.le_of_ble_eq_true rfl⟩) (fun wl5 hp1 H locs hq4 hw hS => ?_)
  obtain ⟨ok2, F3⟩ := hq4
  have hw : PW G cy K ln Ls A hp1 H := hw
  refine lv_lstore_n (lv' := [(2, .long wl5), (0, .ref qa900), (1, .int zi901)]) hx hb dX5_cond_5 rfl hl (by decide) rfl (fun ls hl => ?_)
  refine lv_iconst (v := 0) hx hb dX5_cond_6 (by decide) ?_
  refine lv_istore (lv' := [(4, .int 0), (2, .long wl5), (0, .ref qa900), (1, .int zi901)]) hx hb dX5_cond_7 hl (by decide) rfl (fun ls hl => ?_)
  have jn229 : ∀ (hp226 : Nat → Nat → Value) (wl225 : Int64) (H : Heap) (locs : List Loc) (ls : Array Slot), Ok K hp226 → Fr [6002, 6003, 6004, 6005, 6006] K hp1 hp226 → lv_has ls 5 [(2, .long wl225)] → PW G cy K ln Ls A hp226 H → va_S A s.heap H locs → W p l e ({ frames := 7, cells := 0, slots := 0, locals := 168 } : Room) s m ([.ref qa900, .int zi901] : List Value).toArray below meth c H locs 0 0 Q (F0 m 40 ls []) := by
    intro hp226 wl225 H locs ls ok228 F227 hl hw hS
    refine lv_lload_n hx hb dX5_cond_40 rfl (lv_at hl 0 rfl) ?_
    rw [hQ]
    exact kz_l hx hb hr hlocks hS hp226 hw ⟨ok228, (Fr.tr (Fr.tr (Fr.rf) F3 (by decide)) F227 (by decide))⟩ (Nat.le_of_ble_eq_true rfl) (Nat.le_of_ble_eq_true rfl) dX5_cond_41
  have lp232 : ∀ (n230 : Nat) (hp163 : Nat → Nat → Value) (wl161 : Int64) (zi162 : Int32) (H : Heap) (locs : List Loc) (ls : Array Slot), 401 - zi162.toInt < (n230 : Int) → Ok K hp163 → Fr [6002, 6003, 6004, 6005, 6006] K hp1 hp163 → ((0 : Int) ≤ zi162.toInt ∧ zi162.toInt ≤ 401) → lv_has ls 5 [(0, .ref qa900), (1, .int zi901), (2, .long wl161), (4, .int zi162)] → PW G cy K ln Ls A hp163 H → va_S A s.heap H locs → W p l e ({ frames := 7, cells := 0, slots := 0, locals := 168 } : Room) s m ([.ref qa900, .int zi901] : List Value).toArray below meth c H locs 0 0 Q (F0 m 9 ls []) := by
    intro n230
    induction n230 with
    | zero =>
      intro hp163 wl161 zi162 H locs ls hm233 ok165 F164 bd166 hl hw hS
      exact absurd hm233 (by have := bd166; omega)
    | succ n230 ih231 =>
      intro hp163 wl161 zi162 H locs ls hm233 ok165 F164 bd166 hl hw hS
      refine lv_iload hx hb dX5_cond_9 (lv_at hl 3 rfl) ?_
      refine lv_sipush (v := 400) hx hb dX5_cond_11 (by decide) ?_
      refine lv_icmp_gt (tgt := 40) hx hb dX5_cond_14 (by decide) (fun cn234 => ?_) (fun cn234 => ?_)
      · skip
        have bd235 : (401 : Int) ≤ zi162.toInt ∧ zi162.toInt ≤ 401 := r_lt_y cn234 bc_400 bd166 (by decide) (by decide)
        exact jn229 hp163 wl161 _ _ ls ok165 (Fr.tr (Fr.rf) F164 (by decide)) (lv_sub hl [2] rfl) hw hS
      · skip
        have bd236 : (0 : Int) ≤ zi162.toInt ∧ zi162.toInt ≤ 400 := r_le_x (Int32.not_lt.mp cn234) bd166 bc_400 (by decide) (by decide)
        refine lv_aload_n hx hb dX5_cond_17 rfl (lv_at hl 0 rfl) ?_
        refine lv_bipush (v := 111) hx hb dX5_cond_18 (by decide) ?_
        refine kq_i hw hS hA (va_runV (As := [.int 111]) (rest := []) ⟨hx, hb, hml, hown, hT⟩ (cX5_accept_0 l G cy ev K ln Ls hW _ hp163 ok165 qa900 111 kd900) (cwV 1 hT (good_V tb_854 tb_851 tb_853 tb_8 tb_109) rfl rfl rfl (by decide +kernel) ⟨Nat.le_of_ble_eq_true rfl, Nat.le_of_ble_eq_true rfl⟩) (pool_preV (ci := 5) hK hE hS hA hw hW kd900 (by decide) rfl) rfl rfl hl.1 rfl (lv_room (Nat.le_of_ble_eq_true rfl)) dX5_cond_20 ⟨Nat.le_of_ble_eq_true rfl, Nat.le_of_ble_eq_true rfl⟩) (fun zi241 hp237 H locs hq240 hw hS => ?_)
        obtain ⟨ok238, F239, bd242, hc243, hc244⟩ := hq240
        have hw : PW G cy K ln Ls A hp237 H := hw
        rcases b01 bd242 with cn245 | cn245
        · skip
          subst cn245
          refine lv_if_eq (tgt := 40) hx hb dX5_cond_23 (by decide) (fun _ => ?_) (fun c => absurd (d_eq bc_0 bc_0) c)
          exact jn229 hp237 wl161 _ _ ls ok238 (Fr.tr (Fr.tr (Fr.rf) F164 (by decide)) F239 (by decide)) (lv_sub hl [2] rfl) hw hS
        · skip
          subst cn245
          obtain ⟨zi246, eq247, bd248⟩ := hc243 rfl
          obtain ⟨zi249, eq250, bd251⟩ := hc244 rfl
          refine lv_if_eq (tgt := 40) hx hb dX5_cond_23 (by decide) (fun c => absurd c (d_ne bc_1 bc_0 (by decide))) (fun _ => ?_)
          refine lv_lload_n hx hb dX5_cond_26 rfl (lv_at hl 2 rfl) ?_
          refine lv_aload_n hx hb dX5_cond_27 rfl (lv_at hl 0 rfl) ?_
          refine lv_iload_n hx hb dX5_cond_28 rfl (lv_at hl 1 rfl) ?_
          refine kq_l hw hS hA (va_runV (As := [.int zi901]) (rest := [.long wl161]) ⟨hx, hb, hml, hown, hT⟩ (cX5_all_1 l G cy ev K ln Ls hW _ hp237 ok238 qa900 zi901 kd900 (b_wid2 bd901 (by decide) (by decide))) (cwV 1 hT (good_V tb_914 tb_911 tb_913 tb_16 tb_109) rfl rfl rfl (by decide +kernel) ⟨Nat.le_of_ble_eq_true rfl, Nat.le_of_ble_eq_true rfl⟩) (pool_preV (ci := 5) hK hE hS hA hw hW kd900 (by decide) rfl) rfl rfl hl.1 rfl (lv_room (Nat.le_of_ble_eq_true rfl)) dX5_cond_29 ⟨Nat.le_of_ble_eq_true rfl, Nat.le_of_ble_eq_true rfl⟩) (fun wl256 hp252 H locs hq255 hw hS => ?_)
          obtain ⟨ok253, F254⟩ := hq255
          have hw : PW G cy K ln Ls A hp252 H := hw
          refine lv_lor hx hb dX5_cond_32 (lv_topl (fun wl257 _ => ?_))
          refine lv_lstore_n (lv' := [(2, .long wl257), (0, .ref qa900), (1, .int zi901), (4, .int zi162)]) hx hb dX5_cond_33 rfl hl (by decide) rfl (fun ls hl => ?_)
          obtain ⟨zi258, ea259⟩ : ∃ z : Int32, z = zi162 + 1 := ⟨_, rfl⟩
          have bd260 : (1 : Int) ≤ zi258.toInt ∧ zi258.toInt ≤ 401 := b_iadd ea259 bd236 bc_1 (by decide) (by decide) (by decide) (by decide)
          have qe261 : zi258.toInt = (zi162 : Int32).toInt + (1 : Int32).toInt := e_iadd ea259 bd236 bc_1 (by decide) (by decide)
          have qe262 : zi258.toInt = zi162.toInt + 1 := by have ha : (1 : Int32).toInt = 1 := (by decide); rw [ha] at qe261; exact qe261
          refine lv_iinc (v := zi258) (lv' := [(4, .int zi258), (2, .long wl257), (0, .ref qa900), (1, .int zi901)]) hx hb dX5_cond_34 hl (k := 3) rfl ea259.symm (by decide) rfl (fun ls hl => ?_)
          refine lv_goto (tgt := 9) hx hb dX5_cond_37 (by decide) ?_
          exact ih231 hp252 wl257 zi258 _ _ ls (by have := hm233; have := qe262; omega) ok253 (Fr.tr (Fr.tr (Fr.tr (Fr.rf) F164 (by decide)) F239 (by decide)) F254 (by decide)) (b_wid2 bd260 (by decide) (by decide)) (lv_sub hl [2, 3, 1, 0] rfl) hw hS
  exact lp232 _ hp1 wl5 0 _ _ ls (lp_in _) ok2 (Fr.rf) (b_wid2 bc_0 (by decide) (by decide)) (lv_sub hl [2, 3, 1, 0] rfl) hw hS

set_option maxRecDepth 100000 in
set_option maxHeartbeats 4000000 in
theorem cX5_literal_2 (l : Launch) (G : va_G) (cy : Nat → ClassId) (ev : Ew) (K ln : Nat → Nat) (Ls : List Nat) (hW : SW K ln Ls) (sz : Nat) (hp0 : Nat → Nat → Value) (ok0 : Ok K hp0) (qa900 : Nat) (zi901 : Int32) (kd900 : K qa900 = 6) (bd901 : ((4 : Int) ≤ zi901.toInt ∧ zi901.toInt ≤ 4)) : Met l yX5_literal (WS yX5_literal cX5_literal 6 (some .long)) { frames := 8, cells := 0, slots := 0, locals := 192 } (PB2 [.ref qa900, .int zi901] sz G cy ev (va_pl Ls (cellOf cy K ln hp0))) (QBl (S := (Nat → Nat → Value)) (fun (r : Int64) (u : (Nat → Nat → Value)) => Ok K u ∧ Fr [6002, 6003, 6004, 6005, 6006] K hp0 u) G (fun u => va_pl Ls (cellOf cy K ln u)) (va_A (va_pl Ls (cellOf cy K ln hp0)) sz)) 0 0 (va_A (va_pl Ls (cellOf cy K ln hp0)) sz) := by
  refine met_of2 (y := yX5_literal) (L := 6) (av := [.ref qa900, .int zi901]) (Qc := fun A => QBl (S := (Nat → Nat → Value)) (fun (r : Int64) (u : (Nat → Nat → Value)) => Ok K u ∧ Fr [6002, 6003, 6004, 6005, 6006] K hp0 u) G (fun u => va_pl Ls (cellOf cy K ln u)) A) (plainFor_of_name (by decide)) (Nat.le_of_ble_eq_true rfl) ?_
  intro p e s m below meth c hsz hx hb hr hml hown hT hlocks hin hK A hA hE hw hS ls hl
  have hw : PW G cy K ln Ls A hp0 s.heap := hw
  have hown : s.vm.findClass "LieClock$Parser" = some m.cls := hown
  have hl : lv_has ls 6 [(0, .ref qa900), (1, .int zi901)] := hl
  obtain ⟨Q, hQ⟩ : ∃ Q : State → Prop, Q = MQ below (QBl (S := (Nat → Nat → Value)) (fun (r : Int64) (u : (Nat → Nat → Value)) => Ok K u ∧ Fr [6002, 6003, 6004, 6005, 6006] K hp0 u) G (fun u => va_pl Ls (cellOf cy K ln u)) A) ([.ref qa900, .int zi901] : List Value).toArray s 0 0 A := ⟨_, rfl⟩
  rw [← hQ]
  refine lv_iconst (v := 0) hx hb dX5_literal_0 (by decide) ?_
  refine lv_istore_n (lv' := [(2, .int 0), (0, .ref qa900), (1, .int zi901)]) hx hb dX5_literal_1 rfl hl (by decide) rfl (fun ls hl => ?_)
  refine lv_iconst (v := 0) hx hb dX5_literal_2 (by decide) ?_
  refine lv_istore_n (lv' := [(3, .int 0), (2, .int 0), (0, .ref qa900), (1, .int zi901)]) hx hb dX5_literal_3 rfl hl (by decide) rfl (fun ls hl => ?_)
  have jn236 : ∀ (hp232 : Nat → Nat → Value) (zi231 : Int32) (H : Heap) (locs : List Loc) (ls : Array Slot), Ok K hp232 → Fr [6002, 6003, 6004] K hp0 hp232 → ((0 : Int) ≤ zi231.toInt ∧ zi231.toInt ≤ 1) → lv_has ls 6 [(0, .ref qa900), (1, .int zi901), (2, .int zi231)] → PW G cy K ln Ls A hp232 H → va_S A s.heap H locs → W p l e ({ frames := 8, cells := 0, slots := 0, locals := 192 } : Room) s m ([.ref qa900, .int zi901] : List Value).toArray below meth c H locs 0 0 Q (F0 m 36 ls []) := by
    intro hp232 zi231 H locs ls ok234 F233 bd235 hl hw hS
    refine lv_lconst (v := 0) hx hb dX5_literal_36 (by decide) ?_
    refine lv_lstore_n (lv' := [(3, .long 0), (0, .ref qa900), (1, .int zi901), (2, .int zi231)]) hx hb dX5_literal_37 rfl hl (by decide) rfl (fun ls hl => ?_)
    refine lv_aload_n hx hb dX5_literal_38 rfl (lv_at hl 1 rfl) ?_
    obtain ⟨zi238, eq237⟩ := rd_6003 ok234 kd900
    refine p_get (ci := 5) (v := .int zi238) (C := RX5) (T := TX5) (N := 7) hx hb hT iw_X5 hown hK hw hW kd900 (by decide) rfl rfl 3 (by decide) eq237 (hT _ tb_374) (fun _ h9 => h9) dX5_literal_39 ?_
    refine lv_bipush (v := 40) hx hb dX5_literal_42 (by decide) ?_
    have jn319 : ∀ (hp316 : Nat → Nat → Value) (wl315 : Int64) (H : Heap) (locs : List Loc) (ls : Array Slot), Ok K hp316 → Fr [6002, 6003, 6004, 6005, 6006] K hp232 hp316 → lv_has ls 6 [(2, .int zi231), (3, .long wl315)] → PW G cy K ln Ls A hp316 H → va_S A s.heap H locs → W p l e ({ frames := 8, cells := 0, slots := 0, locals := 192 } : Room) s m ([.ref qa900, .int zi901] : List Value).toArray below meth c H locs 0 0 Q (F0 m 113 ls []) := by
      intro hp316 wl315 H locs ls ok318 F317 hl hw hS
      refine lv_iload_n hx hb dX5_literal_113 rfl (lv_at hl 0 rfl) ?_
      refine lv_if_eq (tgt := 125) hx hb dX5_literal_114 (by decide) (fun cn320 => ?_) (fun cn320 => ?_)
      · skip
        have bd321 : (0 : Int) ≤ zi231.toInt ∧ zi231.toInt ≤ 0 := r_eq_x cn320 bd235 bc_0 (by decide) (by decide)
        refine lv_lload_n hx hb dX5_literal_125 rfl (lv_at hl 1 rfl) ?_
        rw [hQ]
        exact kz_l hx hb hr hlocks hS hp316 hw ⟨ok318, (Fr.tr (Fr.tr (Fr.rf) F233 (by decide)) F317 (by decide))⟩ (Nat.le_of_ble_eq_true rfl) (Nat.le_of_ble_eq_true rfl) dX5_literal_126
      · skip
        have bd322 : (1 : Int) ≤ zi231.toInt ∧ zi231.toInt ≤ 1 := r_ne_lo cn320 bd235 (toi bc_0) (by decide) (by decide)
        refine lv_lload_n hx hb dX5_literal_117 rfl (lv_at hl 1 rfl) ?_
        refine lv_ldc2 (v := (-1)) hx hb hown (hT _ tb_925) dX5_literal_118 ?_
        refine lv_lxor hx hb dX5_literal_121 (lv_topl (fun wl323 _ => ?_))
        refine lv_goto (tgt := 126) hx hb dX5_literal_122 (by decide) ?_
        rw [hQ]
        exact kz_l hx hb hr hlocks hS hp316 hw ⟨ok318, (Fr.tr (Fr.tr (Fr.rf) F233 (by decide)) F317 (by decide))⟩ (Nat.le_of_ble_eq_true rfl) (Nat.le_of_ble_eq_true rfl) dX5_literal_126
    refine lv_icmp_ne (tgt := 72) hx hb dX5_literal_44 (by decide) (fun cn239 => ?_) (fun cn239 => ?_)
    · skip
      refine lv_aload_n hx hb dX5_literal_72 rfl (lv_at hl 1 rfl) ?_
      obtain ⟨qa325, eq324, kd326⟩ := rd_6001 ok234 kd900
      refine p_get (ci := 5) (v := .ref qa325) (C := RX5) (T := TX5) (N := 7) hx hb hT iw_X5 hown hK hw hW kd900 (by decide) rfl rfl 1 (by decide) eq324 (hT _ tb_372) (fun _ h9 => h9) dX5_literal_73 ?_
      refine lv_aload_n hx hb dX5_literal_76 rfl (lv_at hl 1 rfl) ?_
      refine lv_iconst (v := 2) hx hb dX5_literal_77 (by decide) ?_
      refine kq_l hw hS hA (va_runV (As := [.int 2]) (rest := [.ref qa325]) ⟨hx, hb, hml, hown, hT⟩ (cX5_take_0 l G cy ev K ln Ls hW _ hp232 ok234 qa900 2 kd900) (cwV 1 hT (good_V tb_862 tb_859 tb_861 tb_10 tb_109) rfl rfl rfl (by decide +kernel) ⟨Nat.le_of_ble_eq_true rfl, Nat.le_of_ble_eq_true rfl⟩) (pool_preV (ci := 5) hK hE hS hA hw hW kd900 (by decide) rfl) rfl rfl hl.1 rfl (lv_room (Nat.le_of_ble_eq_true rfl)) dX5_literal_78 ⟨Nat.le_of_ble_eq_true rfl, Nat.le_of_ble_eq_true rfl⟩) (fun wl331 hp327 H locs hq330 hw hS => ?_)
      obtain ⟨ok328, F329⟩ := hq330
      have hw : PW G cy K ln Ls A hp327 H := hw
      refine kq_i hw hS hA (va_runV (As := [.long wl331]) (rest := []) ⟨hx, hb, hml, hown, hT⟩ (cX10_factNamed_0 l G cy ev K ln Ls hW _ hp327 ok328 qa325 wl331 kd326) (cwV 1 hT (good_V tb_870 tb_923 tb_868 tb_869 tb_107) rfl rfl rfl (by decide +kernel) ⟨Nat.le_of_ble_eq_true rfl, Nat.le_of_ble_eq_true rfl⟩) (pool_preV (ci := 10) hK hE hS hA hw hW kd326 (by decide) rfl) rfl rfl hl.1 rfl (lv_room (Nat.le_of_ble_eq_true rfl)) dX5_literal_81 ⟨Nat.le_of_ble_eq_true rfl, Nat.le_of_ble_eq_true rfl⟩) (fun zi336 hp332 H locs hq335 hw hS => ?_)
      obtain ⟨ok333, F334, bd337⟩ := hq335
      obtain rfl : hp327 = hp332 := (Fr.nil F334).symm
      have hw : PW G cy K ln Ls A hp327 H := hw
      refine lv_istore (lv' := [(5, .int zi336), (3, .long 0), (0, .ref qa900), (1, .int zi901), (2, .int zi231)]) hx hb dX5_literal_84 hl (by decide) rfl (fun ls hl => ?_)
      refine lv_iload hx hb dX5_literal_86 (lv_at hl 0 rfl) ?_
      refine lv_if_lt (tgt := 108) hx hb dX5_literal_88 (by decide) (fun cn338 => ?_) (fun cn338 => ?_)
      · skip
        have bd339 : (-1 : Int) ≤ zi336.toInt ∧ zi336.toInt ≤ -1 := r_lt_x cn338 bd337 bc_0 (by decide) (by decide)
        refine lv_aload_n hx hb dX5_literal_108 rfl (lv_at hl 2 rfl) ?_
        refine lv_iconst (v := 4) hx hb dX5_literal_109 (by decide) ?_
        refine kq_v hw hS hA (va_runV (As := [.int 4]) (rest := []) ⟨hx, hb, hml, hown, hT⟩ (cX5_failSoftly_0 l G cy ev K ln Ls hW _ hp327 ok328 qa900 4 kd900) (cwV 1 hT (good_V tb_881 tb_878 tb_880 tb_11 tb_109) rfl rfl rfl (by decide +kernel) ⟨Nat.le_of_ble_eq_true rfl, Nat.le_of_ble_eq_true rfl⟩) (pool_preV (ci := 5) hK hE hS hA hw hW kd900 (by decide) rfl) rfl rfl hl.1 rfl (lv_room (Nat.le_of_ble_eq_true rfl)) dX5_literal_110 ⟨Nat.le_of_ble_eq_true rfl, Nat.le_of_ble_eq_true rfl⟩) (fun hp340 H locs hq343 hw hS => ?_)
        obtain ⟨ok341, F342⟩ := hq343
        have hw : PW G cy K ln Ls A hp340 H := hw
        exact jn319 hp340 0 _ _ ls ok341 (Fr.tr (Fr.tr (Fr.rf) F329 (by decide)) F342 (by decide)) (lv_sub hl [4, 1] rfl) hw hS
      · skip
        have bd345 : (0 : Int) ≤ zi336.toInt ∧ zi336.toInt ≤ 5 := r_le_y (Int32.not_lt.mp cn338) bc_0 bd337 (by decide) (by decide)
        refine lv_iload hx hb dX5_literal_91 (lv_at hl 0 rfl) ?_
        refine lv_bipush (v := 6) hx hb dX5_literal_93 (by decide) ?_
        refine lv_icmp_ge (tgt := 108) hx hb dX5_literal_95 (by decide) (fun c => absurd c (d_nle bc_6 bd345 (by decide))) (fun _ => ?_)
        refine va_getsN hx hb hE.2.1 hS hown (hK.fl nw_820) (fun _ h9 => h9) dX5_literal_98 ?_
        refine lv_iload hx hb dX5_literal_101 (lv_at hl 0 rfl) ?_
        obtain ⟨wl346, _⟩ : ∃ w : Int64, w = ev.2.2 (zi336 : Int32).toNatClampNeg := ⟨_, rfl⟩
        refine va_tl (v := .long (ev.2.2 (zi336 : Int32).toNatClampNeg)) hx hb hE.2.2 hS (vp_b bd345 (by decide) (by decide)) rfl dX5_literal_103 (lv_topl (fun wl346x _ => ?_))
        refine lv_lstore_n (lv' := [(3, .long wl346x), (5, .int zi336), (0, .ref qa900), (1, .int zi901), (2, .int zi231)]) hx hb dX5_literal_104 rfl hl (by decide) rfl (fun ls hl => ?_)
        refine lv_goto (tgt := 113) hx hb dX5_literal_105 (by decide) ?_
        exact jn319 hp327 wl346x _ _ ls ok328 (Fr.tr (Fr.rf) F329 (by decide)) (lv_sub hl [4, 0] rfl) hw hS
    · skip
      have bd347 : (40 : Int) ≤ zi238.toInt ∧ zi238.toInt ≤ 40 := r_eq_x cn239 (b_all zi238) bc_40 (by decide) (by decide)
      refine lv_aload_n hx hb dX5_literal_47 rfl (lv_at hl 1 rfl) ?_
      refine lv_iload_n hx hb dX5_literal_48 rfl (lv_at hl 2 rfl) ?_
      refine kq_i hw hS hA (va_runV (As := [.int zi901]) (rest := []) ⟨hx, hb, hml, hown, hT⟩ (cX5_enter_4 l G cy ev K ln Ls hW _ hp232 ok234 qa900 zi901 kd900 (b_wid2 bd901 (by decide) (by decide))) (cwV 1 hT (good_V tb_922 tb_919 tb_921 tb_18 tb_109) rfl rfl rfl (by decide +kernel) ⟨Nat.le_of_ble_eq_true rfl, Nat.le_of_ble_eq_true rfl⟩) (pool_preV (ci := 5) hK hE hS hA hw hW kd900 (by decide) rfl) rfl rfl hl.1 rfl (lv_room (Nat.le_of_ble_eq_true rfl)) dX5_literal_49 ⟨Nat.le_of_ble_eq_true rfl, Nat.le_of_ble_eq_true rfl⟩) (fun zi352 hp348 H locs hq351 hw hS => ?_)
      obtain ⟨ok349, F350, bd353, hc354, hc355⟩ := hq351
      have hw : PW G cy K ln Ls A hp348 H := hw
      have jn377 : ∀ (hp374 : Nat → Nat → Value) (wl373 : Int64) (H : Heap) (locs : List Loc) (ls : Array Slot), Ok K hp374 → Fr [6002, 6003, 6004, 6005, 6006] K hp348 hp374 → lv_has ls 6 [(0, .ref qa900), (2, .int zi231), (3, .long wl373)] → PW G cy K ln Ls A hp374 H → va_S A s.heap H locs → W p l e ({ frames := 8, cells := 0, slots := 0, locals := 192 } : Room) s m ([.ref qa900, .int zi901] : List Value).toArray below meth c H locs 0 0 Q (F0 m 63 ls []) := by
        intro hp374 wl373 H locs ls ok376 F375 hl hw hS
        refine lv_aload_n hx hb dX5_literal_63 rfl (lv_at hl 0 rfl) ?_
        refine lv_bipush (v := 41) hx hb dX5_literal_64 (by decide) ?_
        refine kq_v hw hS hA (va_runV (As := [.int 41]) (rest := []) ⟨hx, hb, hml, hown, hT⟩ (cX5_expect_0 l G cy ev K ln Ls hW _ hp374 ok376 qa900 41 kd900) (cwV 1 hT (good_V tb_889 tb_886 tb_888 tb_12 tb_109) rfl rfl rfl (by decide +kernel) ⟨Nat.le_of_ble_eq_true rfl, Nat.le_of_ble_eq_true rfl⟩) (pool_preV (ci := 5) hK hE hS hA hw hW kd900 (by decide) rfl) rfl rfl hl.1 rfl (lv_room (Nat.le_of_ble_eq_true rfl)) dX5_literal_66 ⟨Nat.le_of_ble_eq_true rfl, Nat.le_of_ble_eq_true rfl⟩) (fun hp378 H locs hq381 hw hS => ?_)
        obtain ⟨ok379, F380⟩ := hq381
        have hw : PW G cy K ln Ls A hp378 H := hw
        refine lv_goto (tgt := 113) hx hb dX5_literal_69 (by decide) ?_
        exact jn319 hp378 wl373 _ _ ls ok379 (Fr.tr (Fr.tr (Fr.tr (Fr.rf) F350 (by decide)) F375 (by decide)) F380 (by decide)) (lv_sub hl [1, 2] rfl) hw hS
      rcases b01 bd353 with cn356 | cn356
      · skip
        subst cn356
        refine lv_if_eq (tgt := 63) hx hb dX5_literal_52 (by decide) (fun _ => ?_) (fun c => absurd (d_eq bc_0 bc_0) c)
        exact jn377 hp348 0 _ _ ls ok349 (Fr.rf) (lv_sub hl [1, 3, 0] rfl) hw hS
      · skip
        subst cn356
        obtain ⟨zi383, eq384, bd385⟩ := hc354 rfl
        obtain ⟨zi386, eq387, bd388⟩ := hc355 rfl
        refine lv_if_eq (tgt := 63) hx hb dX5_literal_52 (by decide) (fun c => absurd c (d_ne bc_1 bc_0 (by decide))) (fun _ => ?_)
        refine lv_aload_n hx hb dX5_literal_55 rfl (lv_at hl 1 rfl) ?_
        refine lv_iload_n hx hb dX5_literal_56 rfl (lv_at hl 2 rfl) ?_
        refine lv_iconst (v := 1) hx hb dX5_literal_57 (by decide) ?_
        refine lv_iadd hx hb dX5_literal_58 (lv_topi (fun zi389 ea390 => ?_))
        have bd391 : (5 : Int) ≤ zi389.toInt ∧ zi389.toInt ≤ 5 := b_iadd ea390 bd901 bc_1 (by decide) (by decide) (by decide) (by decide)
        have qe392 : zi389.toInt = (zi901 : Int32).toInt + (1 : Int32).toInt := e_iadd ea390 bd901 bc_1 (by decide) (by decide)
        have qe393 : zi389.toInt = zi901.toInt + 1 := by have ha : (1 : Int32).toInt = 1 := (by decide); rw [ha] at qe392; exact qe392
        refine kq_l hw hS hA (va_runV (As := [.int zi389]) (rest := []) ⟨hx, hb, hml, hown, hT⟩ (cX5_cond_1 l G cy ev K ln Ls hW _ hp348 ok349 qa900 zi389 kd900 (b_wid2 bd391 (by decide) (by decide))) (cwV 1 hT (good_V tb_910 tb_907 tb_909 tb_15 tb_109) rfl rfl rfl (by decide +kernel) ⟨Nat.le_of_ble_eq_true rfl, Nat.le_of_ble_eq_true rfl⟩) (pool_preV (ci := 5) hK hE hS hA hw hW kd900 (by decide) rfl) rfl rfl hl.1 rfl (lv_room (Nat.le_of_ble_eq_true rfl)) dX5_literal_59 ⟨Nat.le_of_ble_eq_true rfl, Nat.le_of_ble_eq_true rfl⟩) (fun wl398 hp394 H locs hq397 hw hS => ?_)
        obtain ⟨ok395, F396⟩ := hq397
        have hw : PW G cy K ln Ls A hp394 H := hw
        refine lv_lstore_n (lv' := [(3, .long wl398), (0, .ref qa900), (1, .int zi901), (2, .int zi231)]) hx hb dX5_literal_62 rfl hl (by decide) rfl (fun ls hl => ?_)
        exact jn377 hp394 wl398 _ _ ls ok395 (Fr.tr (Fr.rf) F396 (by decide)) (lv_sub hl [1, 3, 0] rfl) hw hS
  have lp401 : ∀ (n399 : Nat) (hp164 : Nat → Nat → Value) (zi162 : Int32) (zi163 : Int32) (H : Heap) (locs : List Loc) (ls : Array Slot), 401 - zi163.toInt < (n399 : Int) → Ok K hp164 → Fr [6002, 6003, 6004] K hp0 hp164 → ((0 : Int) ≤ zi162.toInt ∧ zi162.toInt ≤ 1) → ((0 : Int) ≤ zi163.toInt ∧ zi163.toInt ≤ 401) → lv_has ls 6 [(0, .ref qa900), (1, .int zi901), (2, .int zi162), (3, .int zi163)] → PW G cy K ln Ls A hp164 H → va_S A s.heap H locs → W p l e ({ frames := 8, cells := 0, slots := 0, locals := 192 } : Room) s m ([.ref qa900, .int zi901] : List Value).toArray below meth c H locs 0 0 Q (F0 m 4 ls []) := by
    intro n399
    induction n399 with
    | zero =>
      intro hp164 zi162 zi163 H locs ls hm402 ok166 F165 bd167 bd168 hl hw hS
      exact absurd hm402 (by have := bd168; omega)
    | succ n399 ih400 =>
      intro hp164 zi162 zi163 H locs ls hm402 ok166 F165 bd167 bd168 hl hw hS
      refine lv_iload_n hx hb dX5_literal_4 rfl (lv_at hl 3 rfl) ?_
      refine lv_sipush (v := 400) hx hb dX5_literal_5 (by decide) ?_
      refine lv_icmp_gt (tgt := 36) hx hb dX5_literal_8 (by decide) (fun cn403 => ?_) (fun cn403 => ?_)
      · skip
        have bd404 : (401 : Int) ≤ zi163.toInt ∧ zi163.toInt ≤ 401 := r_lt_y cn403 bc_400 bd168 (by decide) (by decide)
        exact jn236 hp164 zi162 _ _ ls ok166 (Fr.tr (Fr.rf) F165 (by decide)) (b_wid2 bd167 (by decide) (by decide)) (lv_sub hl [0, 1, 2] rfl) hw hS
      · skip
        have bd405 : (0 : Int) ≤ zi163.toInt ∧ zi163.toInt ≤ 400 := r_le_x (Int32.not_lt.mp cn403) bd168 bc_400 (by decide) (by decide)
        refine lv_aload_n hx hb dX5_literal_11 rfl (lv_at hl 0 rfl) ?_
        refine lv_bipush (v := 113) hx hb dX5_literal_12 (by decide) ?_
        refine kq_i hw hS hA (va_runV (As := [.int 113]) (rest := []) ⟨hx, hb, hml, hown, hT⟩ (cX5_accept_0 l G cy ev K ln Ls hW _ hp164 ok166 qa900 113 kd900) (cwV 1 hT (good_V tb_854 tb_851 tb_853 tb_8 tb_109) rfl rfl rfl (by decide +kernel) ⟨Nat.le_of_ble_eq_true rfl, Nat.le_of_ble_eq_true rfl⟩) (pool_preV (ci := 5) hK hE hS hA hw hW kd900 (by decide) rfl) rfl rfl hl.1 rfl (lv_room (Nat.le_of_ble_eq_true rfl)) dX5_literal_14 ⟨Nat.le_of_ble_eq_true rfl, Nat.le_of_ble_eq_true rfl⟩) (fun zi410 hp406 H locs hq409 hw hS => ?_)
        obtain ⟨ok407, F408, bd411, hc412, hc413⟩ := hq409
        have hw : PW G cy K ln Ls A hp406 H := hw
        rcases b01 bd411 with cn414 | cn414
        · skip
          subst cn414
          refine lv_if_eq (tgt := 36) hx hb dX5_literal_17 (by decide) (fun _ => ?_) (fun c => absurd (d_eq bc_0 bc_0) c)
          exact jn236 hp406 zi162 _ _ ls ok407 (Fr.tr (Fr.tr (Fr.rf) F165 (by decide)) F408 (by decide)) (b_wid2 bd167 (by decide) (by decide)) (lv_sub hl [0, 1, 2] rfl) hw hS
        · skip
          subst cn414
          obtain ⟨zi415, eq416, bd417⟩ := hc412 rfl
          obtain ⟨zi418, eq419, bd420⟩ := hc413 rfl
          refine lv_if_eq (tgt := 36) hx hb dX5_literal_17 (by decide) (fun c => absurd c (d_ne bc_1 bc_0 (by decide))) (fun _ => ?_)
          refine lv_iload_n hx hb dX5_literal_20 rfl (lv_at hl 2 rfl) ?_
          have jn426 : ∀ (zi424 : Int32) (H : Heap) (locs : List Loc) (ls : Array Slot), ((0 : Int) ≤ zi424.toInt ∧ zi424.toInt ≤ 1) → lv_has ls 6 [(0, .ref qa900), (1, .int zi901), (3, .int zi163)] → PW G cy K ln Ls A hp406 H → va_S A s.heap H locs → W p l e ({ frames := 8, cells := 0, slots := 0, locals := 192 } : Room) s m ([.ref qa900, .int zi901] : List Value).toArray below meth c H locs 0 0 Q (F0 m 29 ls [.int zi424]) := by
            intro zi424 H locs ls bd425 hl hw hS
            refine lv_istore_n (lv' := [(2, .int zi424), (0, .ref qa900), (1, .int zi901), (3, .int zi163)]) hx hb dX5_literal_29 rfl hl (by decide) rfl (fun ls hl => ?_)
            obtain ⟨zi427, ea428⟩ : ∃ z : Int32, z = zi163 + 1 := ⟨_, rfl⟩
            have bd429 : (1 : Int) ≤ zi427.toInt ∧ zi427.toInt ≤ 401 := b_iadd ea428 bd405 bc_1 (by decide) (by decide) (by decide) (by decide)
            have qe430 : zi427.toInt = (zi163 : Int32).toInt + (1 : Int32).toInt := e_iadd ea428 bd405 bc_1 (by decide) (by decide)
            have qe431 : zi427.toInt = zi163.toInt + 1 := by have ha : (1 : Int32).toInt = 1 := (by decide); rw [ha] at qe430; exact qe430
            refine lv_iinc (v := zi427) (lv' := [(3, .int zi427), (2, .int zi424), (0, .ref qa900), (1, .int zi901)]) hx hb dX5_literal_30 hl (k := 3) rfl ea428.symm (by decide) rfl (fun ls hl => ?_)
            refine lv_goto (tgt := 4) hx hb dX5_literal_33 (by decide) ?_
            exact ih400 hp406 zi424 zi427 _ _ ls (by have := hm402; have := qe431; omega) ok407 (Fr.tr (Fr.tr (Fr.rf) F165 (by decide)) F408 (by decide)) (b_wid2 bd425 (by decide) (by decide)) (b_wid2 bd429 (by decide) (by decide)) (lv_sub hl [2, 3, 1, 0] rfl) hw hS
          refine lv_if_ne (tgt := 28) hx hb dX5_literal_21 (by decide) (fun cn421 => ?_) (fun cn421 => ?_)
          · skip
            have bd432 : (1 : Int) ≤ zi162.toInt ∧ zi162.toInt ≤ 1 := r_ne_lo cn421 bd167 (toi bc_0) (by decide) (by decide)
            refine lv_iconst (v := 0) hx hb dX5_literal_28 (by decide) ?_
            exact jn426 0 _ _ ls (b_wid2 bc_0 (by decide) (by decide)) (lv_sub hl [0, 1, 3] rfl) hw hS
          · skip
            have bd433 : (0 : Int) ≤ zi162.toInt ∧ zi162.toInt ≤ 0 := r_eq_x cn421 bd167 bc_0 (by decide) (by decide)
            refine lv_iconst (v := 1) hx hb dX5_literal_24 (by decide) ?_
            refine lv_goto (tgt := 29) hx hb dX5_literal_25 (by decide) ?_
            exact jn426 1 _ _ ls (b_wid2 bc_1 (by decide) (by decide)) (lv_sub hl [0, 1, 3] rfl) hw hS
  exact lp401 _ hp0 0 0 _ _ ls (lp_in _) ok0 (Fr.rf) (b_wid2 bc_0 (by decide) (by decide)) (b_wid2 bc_0 (by decide) (by decide)) (lv_sub hl [2, 3, 1, 0] rfl) hw hS

set_option maxRecDepth 100000 in
set_option maxHeartbeats 4000000 in
theorem cX5_all_2 (l : Launch) (G : va_G) (cy : Nat → ClassId) (ev : Ew) (K ln : Nat → Nat) (Ls : List Nat) (hW : SW K ln Ls) (sz : Nat) (hp0 : Nat → Nat → Value) (ok0 : Ok K hp0) (qa900 : Nat) (zi901 : Int32) (kd900 : K qa900 = 6) (bd901 : ((4 : Int) ≤ zi901.toInt ∧ zi901.toInt ≤ 4)) : Met l yX5_all (WS yX5_all cX5_all 5 (some .long)) { frames := 9, cells := 0, slots := 0, locals := 217 } (PB2 [.ref qa900, .int zi901] sz G cy ev (va_pl Ls (cellOf cy K ln hp0))) (QBl (S := (Nat → Nat → Value)) (fun (r : Int64) (u : (Nat → Nat → Value)) => Ok K u ∧ Fr [6002, 6003, 6004, 6005, 6006] K hp0 u) G (fun u => va_pl Ls (cellOf cy K ln u)) (va_A (va_pl Ls (cellOf cy K ln hp0)) sz)) 0 0 (va_A (va_pl Ls (cellOf cy K ln hp0)) sz) := by
  refine met_of2 (y := yX5_all) (L := 5) (av := [.ref qa900, .int zi901]) (Qc := fun A => QBl (S := (Nat → Nat → Value)) (fun (r : Int64) (u : (Nat → Nat → Value)) => Ok K u ∧ Fr [6002, 6003, 6004, 6005, 6006] K hp0 u) G (fun u => va_pl Ls (cellOf cy K ln u)) A) (plainFor_of_name (by decide)) (Nat.le_of_ble_eq_true rfl) ?_
  intro p e s m below meth c hsz hx hb hr hml hown hT hlocks hin hK A hA hE hw hS ls hl
  have hw : PW G cy K ln Ls A hp0 s.heap := hw
  have hown : s.vm.findClass "LieClock$Parser" = some m.cls := hown
  have hl : lv_has ls 5 [(0, .ref qa900), (1, .int zi901)] := hl
  obtain ⟨Q, hQ⟩ : ∃ Q : State → Prop, Q = MQ below (QBl (S := (Nat → Nat → Value)) (fun (r : Int64) (u : (Nat → Nat → Value)) => Ok K u ∧ Fr [6002, 6003, 6004, 6005, 6006] K hp0 u) G (fun u => va_pl Ls (cellOf cy K ln u)) A) ([.ref qa900, .int zi901] : List Value).toArray s 0 0 A := ⟨_, rfl⟩
  rw [← hQ]
  refine lv_aload_n hx hb dX5_all_0 rfl (lv_at hl 0 rfl) ?_
  refine lv_iload_n hx hb dX5_all_1 rfl (lv_at hl 1 rfl) ?_
  refine kq_l hw hS hA (va_runV (As := [.int zi901]) (rest := []) ⟨hx, hb, hml, hown, hT⟩ (cX5_literal_2 l G cy ev K ln Ls hW _ hp0 ok0 qa900 zi901 kd900 (b_wid2 bd901 (by decide) (by decide))) (cwV 1 hT (good_V tb_918 tb_915 tb_917 tb_17 tb_109) rfl rfl rfl (by decide +kernel) ⟨Nat.le_of_ble_eq_true rfl, Nat.le_of_ble_eq_true rfl⟩) (pool_preV (ci := 5) hK hE hS hA hw hW kd900 (by decide) rfl) rfl rfl hl.1 rfl (lv_room (Nat.le_of_ble_eq_true rfl)) dX5_all_2 ⟨Nat.le_of_ble_eq_true rfl, Nat.le_of_ble_eq_true rfl⟩) (fun wl5 hp1 H locs hq4 hw hS => ?_)
  obtain ⟨ok2, F3⟩ := hq4
  have hw : PW G cy K ln Ls A hp1 H := hw
  refine lv_lstore_n (lv' := [(2, .long wl5), (0, .ref qa900), (1, .int zi901)]) hx hb dX5_all_5 rfl hl (by decide) rfl (fun ls hl => ?_)
  refine lv_iconst (v := 0) hx hb dX5_all_6 (by decide) ?_
  refine lv_istore (lv' := [(4, .int 0), (2, .long wl5), (0, .ref qa900), (1, .int zi901)]) hx hb dX5_all_7 hl (by decide) rfl (fun ls hl => ?_)
  have jn229 : ∀ (hp226 : Nat → Nat → Value) (wl225 : Int64) (H : Heap) (locs : List Loc) (ls : Array Slot), Ok K hp226 → Fr [6002, 6003, 6004, 6005, 6006] K hp1 hp226 → lv_has ls 5 [(2, .long wl225)] → PW G cy K ln Ls A hp226 H → va_S A s.heap H locs → W p l e ({ frames := 9, cells := 0, slots := 0, locals := 217 } : Room) s m ([.ref qa900, .int zi901] : List Value).toArray below meth c H locs 0 0 Q (F0 m 40 ls []) := by
    intro hp226 wl225 H locs ls ok228 F227 hl hw hS
    refine lv_lload_n hx hb dX5_all_40 rfl (lv_at hl 0 rfl) ?_
    rw [hQ]
    exact kz_l hx hb hr hlocks hS hp226 hw ⟨ok228, (Fr.tr (Fr.tr (Fr.rf) F3 (by decide)) F227 (by decide))⟩ (Nat.le_of_ble_eq_true rfl) (Nat.le_of_ble_eq_true rfl) dX5_all_41
  have lp232 : ∀ (n230 : Nat) (hp163 : Nat → Nat → Value) (wl161 : Int64) (zi162 : Int32) (H : Heap) (locs : List Loc) (ls : Array Slot), 401 - zi162.toInt < (n230 : Int) → Ok K hp163 → Fr [6002, 6003, 6004, 6005, 6006] K hp1 hp163 → ((0 : Int) ≤ zi162.toInt ∧ zi162.toInt ≤ 401) → lv_has ls 5 [(0, .ref qa900), (1, .int zi901), (2, .long wl161), (4, .int zi162)] → PW G cy K ln Ls A hp163 H → va_S A s.heap H locs → W p l e ({ frames := 9, cells := 0, slots := 0, locals := 217 } : Room) s m ([.ref qa900, .int zi901] : List Value).toArray below meth c H locs 0 0 Q (F0 m 9 ls []) := by
    intro n230
    induction n230 with
    | zero =>
      intro hp163 wl161 zi162 H locs ls hm233 ok165 F164 bd166 hl hw hS
      exact absurd hm233 (by have := bd166; omega)
    | succ n230 ih231 =>
      intro hp163 wl161 zi162 H locs ls hm233 ok165 F164 bd166 hl hw hS
      refine lv_iload hx hb dX5_all_9 (lv_at hl 3 rfl) ?_
      refine lv_sipush (v := 400) hx hb dX5_all_11 (by decide) ?_
      refine lv_icmp_gt (tgt := 40) hx hb dX5_all_14 (by decide) (fun cn234 => ?_) (fun cn234 => ?_)
      · skip
        have bd235 : (401 : Int) ≤ zi162.toInt ∧ zi162.toInt ≤ 401 := r_lt_y cn234 bc_400 bd166 (by decide) (by decide)
        exact jn229 hp163 wl161 _ _ ls ok165 (Fr.tr (Fr.rf) F164 (by decide)) (lv_sub hl [2] rfl) hw hS
      · skip
        have bd236 : (0 : Int) ≤ zi162.toInt ∧ zi162.toInt ≤ 400 := r_le_x (Int32.not_lt.mp cn234) bd166 bc_400 (by decide) (by decide)
        refine lv_aload_n hx hb dX5_all_17 rfl (lv_at hl 0 rfl) ?_
        refine lv_bipush (v := 112) hx hb dX5_all_18 (by decide) ?_
        refine kq_i hw hS hA (va_runV (As := [.int 112]) (rest := []) ⟨hx, hb, hml, hown, hT⟩ (cX5_accept_0 l G cy ev K ln Ls hW _ hp163 ok165 qa900 112 kd900) (cwV 1 hT (good_V tb_854 tb_851 tb_853 tb_8 tb_109) rfl rfl rfl (by decide +kernel) ⟨Nat.le_of_ble_eq_true rfl, Nat.le_of_ble_eq_true rfl⟩) (pool_preV (ci := 5) hK hE hS hA hw hW kd900 (by decide) rfl) rfl rfl hl.1 rfl (lv_room (Nat.le_of_ble_eq_true rfl)) dX5_all_20 ⟨Nat.le_of_ble_eq_true rfl, Nat.le_of_ble_eq_true rfl⟩) (fun zi241 hp237 H locs hq240 hw hS => ?_)
        obtain ⟨ok238, F239, bd242, hc243, hc244⟩ := hq240
        have hw : PW G cy K ln Ls A hp237 H := hw
        rcases b01 bd242 with cn245 | cn245
        · skip
          subst cn245
          refine lv_if_eq (tgt := 40) hx hb dX5_all_23 (by decide) (fun _ => ?_) (fun c => absurd (d_eq bc_0 bc_0) c)
          exact jn229 hp237 wl161 _ _ ls ok238 (Fr.tr (Fr.tr (Fr.rf) F164 (by decide)) F239 (by decide)) (lv_sub hl [2] rfl) hw hS
        · skip
          subst cn245
          obtain ⟨zi246, eq247, bd248⟩ := hc243 rfl
          obtain ⟨zi249, eq250, bd251⟩ := hc244 rfl
          refine lv_if_eq (tgt := 40) hx hb dX5_all_23 (by decide) (fun c => absurd c (d_ne bc_1 bc_0 (by decide))) (fun _ => ?_)
          refine lv_lload_n hx hb dX5_all_26 rfl (lv_at hl 2 rfl) ?_
          refine lv_aload_n hx hb dX5_all_27 rfl (lv_at hl 0 rfl) ?_
          refine lv_iload_n hx hb dX5_all_28 rfl (lv_at hl 1 rfl) ?_
          refine kq_l hw hS hA (va_runV (As := [.int zi901]) (rest := [.long wl161]) ⟨hx, hb, hml, hown, hT⟩ (cX5_literal_2 l G cy ev K ln Ls hW _ hp237 ok238 qa900 zi901 kd900 (b_wid2 bd901 (by decide) (by decide))) (cwV 1 hT (good_V tb_918 tb_915 tb_917 tb_17 tb_109) rfl rfl rfl (by decide +kernel) ⟨Nat.le_of_ble_eq_true rfl, Nat.le_of_ble_eq_true rfl⟩) (pool_preV (ci := 5) hK hE hS hA hw hW kd900 (by decide) rfl) rfl rfl hl.1 rfl (lv_room (Nat.le_of_ble_eq_true rfl)) dX5_all_29 ⟨Nat.le_of_ble_eq_true rfl, Nat.le_of_ble_eq_true rfl⟩) (fun wl256 hp252 H locs hq255 hw hS => ?_)
          obtain ⟨ok253, F254⟩ := hq255
          have hw : PW G cy K ln Ls A hp252 H := hw
          refine lv_land hx hb dX5_all_32 (lv_topl (fun wl257 _ => ?_))
          refine lv_lstore_n (lv' := [(2, .long wl257), (0, .ref qa900), (1, .int zi901), (4, .int zi162)]) hx hb dX5_all_33 rfl hl (by decide) rfl (fun ls hl => ?_)
          obtain ⟨zi258, ea259⟩ : ∃ z : Int32, z = zi162 + 1 := ⟨_, rfl⟩
          have bd260 : (1 : Int) ≤ zi258.toInt ∧ zi258.toInt ≤ 401 := b_iadd ea259 bd236 bc_1 (by decide) (by decide) (by decide) (by decide)
          have qe261 : zi258.toInt = (zi162 : Int32).toInt + (1 : Int32).toInt := e_iadd ea259 bd236 bc_1 (by decide) (by decide)
          have qe262 : zi258.toInt = zi162.toInt + 1 := by have ha : (1 : Int32).toInt = 1 := (by decide); rw [ha] at qe261; exact qe261
          refine lv_iinc (v := zi258) (lv' := [(4, .int zi258), (2, .long wl257), (0, .ref qa900), (1, .int zi901)]) hx hb dX5_all_34 hl (k := 3) rfl ea259.symm (by decide) rfl (fun ls hl => ?_)
          refine lv_goto (tgt := 9) hx hb dX5_all_37 (by decide) ?_
          exact ih231 hp252 wl257 zi258 _ _ ls (by have := hm233; have := qe262; omega) ok253 (Fr.tr (Fr.tr (Fr.tr (Fr.rf) F164 (by decide)) F239 (by decide)) F254 (by decide)) (b_wid2 bd260 (by decide) (by decide)) (lv_sub hl [2, 3, 1, 0] rfl) hw hS
  exact lp232 _ hp1 wl5 0 _ _ ls (lp_in _) ok2 (Fr.rf) (b_wid2 bc_0 (by decide) (by decide)) (lv_sub hl [2, 3, 1, 0] rfl) hw hS

set_option maxRecDepth 100000 in
set_option maxHeartbeats 4000000 in
theorem cX5_cond_2 (l : Launch) (G : va_G) (cy : Nat → ClassId) (ev : Ew) (K ln : Nat → Nat) (Ls : List Nat) (hW : SW K ln Ls) (sz : Nat) (hp0 : Nat → Nat → Value) (ok0 : Ok K hp0) (qa900 : Nat) (zi901 : Int32) (kd900 : K qa900 = 6) (bd901 : ((4 : Int) ≤ zi901.toInt ∧ zi901.toInt ≤ 4)) : Met l yX5_cond (WS yX5_cond cX5_cond 5 (some .long)) { frames := 10, cells := 0, slots := 0, locals := 241 } (PB2 [.ref qa900, .int zi901] sz G cy ev (va_pl Ls (cellOf cy K ln hp0))) (QBl (S := (Nat → Nat → Value)) (fun (r : Int64) (u : (Nat → Nat → Value)) => Ok K u ∧ Fr [6002, 6003, 6004, 6005, 6006] K hp0 u) G (fun u => va_pl Ls (cellOf cy K ln u)) (va_A (va_pl Ls (cellOf cy K ln hp0)) sz)) 0 0 (va_A (va_pl Ls (cellOf cy K ln hp0)) sz) := by
  refine met_of2 (y := yX5_cond) (L := 5) (av := [.ref qa900, .int zi901]) (Qc := fun A => QBl (S := (Nat → Nat → Value)) (fun (r : Int64) (u : (Nat → Nat → Value)) => Ok K u ∧ Fr [6002, 6003, 6004, 6005, 6006] K hp0 u) G (fun u => va_pl Ls (cellOf cy K ln u)) A) (plainFor_of_name (by decide)) (Nat.le_of_ble_eq_true rfl) ?_
  intro p e s m below meth c hsz hx hb hr hml hown hT hlocks hin hK A hA hE hw hS ls hl
  have hw : PW G cy K ln Ls A hp0 s.heap := hw
  have hown : s.vm.findClass "LieClock$Parser" = some m.cls := hown
  have hl : lv_has ls 5 [(0, .ref qa900), (1, .int zi901)] := hl
  obtain ⟨Q, hQ⟩ : ∃ Q : State → Prop, Q = MQ below (QBl (S := (Nat → Nat → Value)) (fun (r : Int64) (u : (Nat → Nat → Value)) => Ok K u ∧ Fr [6002, 6003, 6004, 6005, 6006] K hp0 u) G (fun u => va_pl Ls (cellOf cy K ln u)) A) ([.ref qa900, .int zi901] : List Value).toArray s 0 0 A := ⟨_, rfl⟩
  rw [← hQ]
  refine lv_aload_n hx hb dX5_cond_0 rfl (lv_at hl 0 rfl) ?_
  refine lv_iload_n hx hb dX5_cond_1 rfl (lv_at hl 1 rfl) ?_
  refine kq_l hw hS hA (va_runV (As := [.int zi901]) (rest := []) ⟨hx, hb, hml, hown, hT⟩ (cX5_all_2 l G cy ev K ln Ls hW _ hp0 ok0 qa900 zi901 kd900 (b_wid2 bd901 (by decide) (by decide))) (cwV 1 hT (good_V tb_914 tb_911 tb_913 tb_16 tb_109) rfl rfl rfl (by decide +kernel) ⟨Nat.le_of_ble_eq_true rfl, Nat.le_of_ble_eq_true rfl⟩) (pool_preV (ci := 5) hK hE hS hA hw hW kd900 (by decide) rfl) rfl rfl hl.1 rfl (lv_room (Nat.le_of_ble_eq_true rfl)) dX5_cond_2 ⟨Nat.le_of_ble_eq_true rfl, Nat.le_of_ble_eq_true rfl⟩) (fun wl5 hp1 H locs hq4 hw hS => ?_)
  obtain ⟨ok2, F3⟩ := hq4
  have hw : PW G cy K ln Ls A hp1 H := hw
  refine lv_lstore_n (lv' := [(2, .long wl5), (0, .ref qa900), (1, .int zi901)]) hx hb dX5_cond_5 rfl hl (by decide) rfl (fun ls hl => ?_)
  refine lv_iconst (v := 0) hx hb dX5_cond_6 (by decide) ?_
  refine lv_istore (lv' := [(4, .int 0), (2, .long wl5), (0, .ref qa900), (1, .int zi901)]) hx hb dX5_cond_7 hl (by decide) rfl (fun ls hl => ?_)
  have jn229 : ∀ (hp226 : Nat → Nat → Value) (wl225 : Int64) (H : Heap) (locs : List Loc) (ls : Array Slot), Ok K hp226 → Fr [6002, 6003, 6004, 6005, 6006] K hp1 hp226 → lv_has ls 5 [(2, .long wl225)] → PW G cy K ln Ls A hp226 H → va_S A s.heap H locs → W p l e ({ frames := 10, cells := 0, slots := 0, locals := 241 } : Room) s m ([.ref qa900, .int zi901] : List Value).toArray below meth c H locs 0 0 Q (F0 m 40 ls []) := by
    intro hp226 wl225 H locs ls ok228 F227 hl hw hS
    refine lv_lload_n hx hb dX5_cond_40 rfl (lv_at hl 0 rfl) ?_
    rw [hQ]
    exact kz_l hx hb hr hlocks hS hp226 hw ⟨ok228, (Fr.tr (Fr.tr (Fr.rf) F3 (by decide)) F227 (by decide))⟩ (Nat.le_of_ble_eq_true rfl) (Nat.le_of_ble_eq_true rfl) dX5_cond_41
  have lp232 : ∀ (n230 : Nat) (hp163 : Nat → Nat → Value) (wl161 : Int64) (zi162 : Int32) (H : Heap) (locs : List Loc) (ls : Array Slot), 401 - zi162.toInt < (n230 : Int) → Ok K hp163 → Fr [6002, 6003, 6004, 6005, 6006] K hp1 hp163 → ((0 : Int) ≤ zi162.toInt ∧ zi162.toInt ≤ 401) → lv_has ls 5 [(0, .ref qa900), (1, .int zi901), (2, .long wl161), (4, .int zi162)] → PW G cy K ln Ls A hp163 H → va_S A s.heap H locs → W p l e ({ frames := 10, cells := 0, slots := 0, locals := 241 } : Room) s m ([.ref qa900, .int zi901] : List Value).toArray below meth c H locs 0 0 Q (F0 m 9 ls []) := by
    intro n230
    induction n230 with
    | zero =>
      intro hp163 wl161 zi162 H locs ls hm233 ok165 F164 bd166 hl hw hS
      exact absurd hm233 (by have := bd166; omega)
    | succ n230 ih231 =>
      intro hp163 wl161 zi162 H locs ls hm233 ok165 F164 bd166 hl hw hS
      refine lv_iload hx hb dX5_cond_9 (lv_at hl 3 rfl) ?_
      refine lv_sipush (v := 400) hx hb dX5_cond_11 (by decide) ?_
      refine lv_icmp_gt (tgt := 40) hx hb dX5_cond_14 (by decide) (fun cn234 => ?_) (fun cn234 => ?_)
      · skip
        have bd235 : (401 : Int) ≤ zi162.toInt ∧ zi162.toInt ≤ 401 := r_lt_y cn234 bc_400 bd166 (by decide) (by decide)
        exact jn229 hp163 wl161 _ _ ls ok165 (Fr.tr (Fr.rf) F164 (by decide)) (lv_sub hl [2] rfl) hw hS
      · skip
        have bd236 : (0 : Int) ≤ zi162.toInt ∧ zi162.toInt ≤ 400 := r_le_x (Int32.not_lt.mp cn234) bd166 bc_400 (by decide) (by decide)
        refine lv_aload_n hx hb dX5_cond_17 rfl (lv_at hl 0 rfl) ?_
        refine lv_bipush (v := 111) hx hb dX5_cond_18 (by decide) ?_
        refine kq_i hw hS hA (va_runV (As := [.int 111]) (rest := []) ⟨hx, hb, hml, hown, hT⟩ (cX5_accept_0 l G cy ev K ln Ls hW _ hp163 ok165 qa900 111 kd900) (cwV 1 hT (good_V tb_854 tb_851 tb_853 tb_8 tb_109) rfl rfl rfl (by decide +kernel) ⟨Nat.le_of_ble_eq_true rfl, Nat.le_of_ble_eq_true rfl⟩) (pool_preV (ci := 5) hK hE hS hA hw hW kd900 (by decide) rfl) rfl rfl hl.1 rfl (lv_room (Nat.le_of_ble_eq_true rfl)) dX5_cond_20 ⟨Nat.le_of_ble_eq_true rfl, Nat.le_of_ble_eq_true rfl⟩) (fun zi241 hp237 H locs hq240 hw hS => ?_)
        obtain ⟨ok238, F239, bd242, hc243, hc244⟩ := hq240
        have hw : PW G cy K ln Ls A hp237 H := hw
        rcases b01 bd242 with cn245 | cn245
        · skip
          subst cn245
          refine lv_if_eq (tgt := 40) hx hb dX5_cond_23 (by decide) (fun _ => ?_) (fun c => absurd (d_eq bc_0 bc_0) c)
          exact jn229 hp237 wl161 _ _ ls ok238 (Fr.tr (Fr.tr (Fr.rf) F164 (by decide)) F239 (by decide)) (lv_sub hl [2] rfl) hw hS
        · skip
          subst cn245
          obtain ⟨zi246, eq247, bd248⟩ := hc243 rfl
          obtain ⟨zi249, eq250, bd251⟩ := hc244 rfl
          refine lv_if_eq (tgt := 40) hx hb dX5_cond_23 (by decide) (fun c => absurd c (d_ne bc_1 bc_0 (by decide))) (fun _ => ?_)
          refine lv_lload_n hx hb dX5_cond_26 rfl (lv_at hl 2 rfl) ?_
          refine lv_aload_n hx hb dX5_cond_27 rfl (lv_at hl 0 rfl) ?_
          refine lv_iload_n hx hb dX5_cond_28 rfl (lv_at hl 1 rfl) ?_
          refine kq_l hw hS hA (va_runV (As := [.int zi901]) (rest := [.long wl161]) ⟨hx, hb, hml, hown, hT⟩ (cX5_all_2 l G cy ev K ln Ls hW _ hp237 ok238 qa900 zi901 kd900 (b_wid2 bd901 (by decide) (by decide))) (cwV 1 hT (good_V tb_914 tb_911 tb_913 tb_16 tb_109) rfl rfl rfl (by decide +kernel) ⟨Nat.le_of_ble_eq_true rfl, Nat.le_of_ble_eq_true rfl⟩) (pool_preV (ci := 5) hK hE hS hA hw hW kd900 (by decide) rfl) rfl rfl hl.1 rfl (lv_room (Nat.le_of_ble_eq_true rfl)) dX5_cond_29 ⟨Nat.le_of_ble_eq_true rfl, Nat.le_of_ble_eq_true rfl⟩) (fun wl256 hp252 H locs hq255 hw hS => ?_)
          obtain ⟨ok253, F254⟩ := hq255
          have hw : PW G cy K ln Ls A hp252 H := hw
          refine lv_lor hx hb dX5_cond_32 (lv_topl (fun wl257 _ => ?_))
          refine lv_lstore_n (lv' := [(2, .long wl257), (0, .ref qa900), (1, .int zi901), (4, .int zi162)]) hx hb dX5_cond_33 rfl hl (by decide) rfl (fun ls hl => ?_)
          obtain ⟨zi258, ea259⟩ : ∃ z : Int32, z = zi162 + 1 := ⟨_, rfl⟩
          have bd260 : (1 : Int) ≤ zi258.toInt ∧ zi258.toInt ≤ 401 := b_iadd ea259 bd236 bc_1 (by decide) (by decide) (by decide) (by decide)
          have qe261 : zi258.toInt = (zi162 : Int32).toInt + (1 : Int32).toInt := e_iadd ea259 bd236 bc_1 (by decide) (by decide)
          have qe262 : zi258.toInt = zi162.toInt + 1 := by have ha : (1 : Int32).toInt = 1 := (by decide); rw [ha] at qe261; exact qe261
          refine lv_iinc (v := zi258) (lv' := [(4, .int zi258), (2, .long wl257), (0, .ref qa900), (1, .int zi901)]) hx hb dX5_cond_34 hl (k := 3) rfl ea259.symm (by decide) rfl (fun ls hl => ?_)
          refine lv_goto (tgt := 9) hx hb dX5_cond_37 (by decide) ?_
          exact ih231 hp252 wl257 zi258 _ _ ls (by have := hm233; have := qe262; omega) ok253 (Fr.tr (Fr.tr (Fr.tr (Fr.rf) F164 (by decide)) F239 (by decide)) F254 (by decide)) (b_wid2 bd260 (by decide) (by decide)) (lv_sub hl [2, 3, 1, 0] rfl) hw hS
  exact lp232 _ hp1 wl5 0 _ _ ls (lp_in _) ok2 (Fr.rf) (b_wid2 bc_0 (by decide) (by decide)) (lv_sub hl [2, 3, 1, 0] rfl) hw hS

set_option maxRecDepth 100000 in
set_option maxHeartbeats 4000000 in
theorem cX5_literal_3 (l : Launch) (G : va_G) (cy : Nat → ClassId) (ev : Ew) (K ln : Nat → Nat) (Ls : List Nat) (hW : SW K ln Ls) (sz : Nat) (hp0 : Nat → Nat → Value) (ok0 : Ok K hp0) (qa900 : Nat) (zi901 : Int32) (kd900 : K qa900 = 6) (bd901 : ((3 : Int) ≤ zi901.toInt ∧ zi901.toInt ≤ 3)) : Met l yX5_literal (WS yX5_literal cX5_literal 6 (some .long)) { frames := 11, cells := 0, slots := 0, locals := 265 } (PB2 [.ref qa900, .int zi901] sz G cy ev (va_pl Ls (cellOf cy K ln hp0))) (QBl (S := (Nat → Nat → Value)) (fun (r : Int64) (u : (Nat → Nat → Value)) => Ok K u ∧ Fr [6002, 6003, 6004, 6005, 6006] K hp0 u) G (fun u => va_pl Ls (cellOf cy K ln u)) (va_A (va_pl Ls (cellOf cy K ln hp0)) sz)) 0 0 (va_A (va_pl Ls (cellOf cy K ln hp0)) sz) := by
  refine met_of2 (y := yX5_literal) (L := 6) (av := [.ref qa900, .int zi901]) (Qc := fun A => QBl (S := (Nat → Nat → Value)) (fun (r : Int64) (u : (Nat → Nat → Value)) => Ok K u ∧ Fr [6002, 6003, 6004, 6005, 6006] K hp0 u) G (fun u => va_pl Ls (cellOf cy K ln u)) A) (plainFor_of_name (by decide)) (Nat.le_of_ble_eq_true rfl) ?_
  intro p e s m below meth c hsz hx hb hr hml hown hT hlocks hin hK A hA hE hw hS ls hl
  have hw : PW G cy K ln Ls A hp0 s.heap := hw
  have hown : s.vm.findClass "LieClock$Parser" = some m.cls := hown
  have hl : lv_has ls 6 [(0, .ref qa900), (1, .int zi901)] := hl
  obtain ⟨Q, hQ⟩ : ∃ Q : State → Prop, Q = MQ below (QBl (S := (Nat → Nat → Value)) (fun (r : Int64) (u : (Nat → Nat → Value)) => Ok K u ∧ Fr [6002, 6003, 6004, 6005, 6006] K hp0 u) G (fun u => va_pl Ls (cellOf cy K ln u)) A) ([.ref qa900, .int zi901] : List Value).toArray s 0 0 A := ⟨_, rfl⟩
  rw [← hQ]
  refine lv_iconst (v := 0) hx hb dX5_literal_0 (by decide) ?_
  refine lv_istore_n (lv' := [(2, .int 0), (0, .ref qa900), (1, .int zi901)]) hx hb dX5_literal_1 rfl hl (by decide) rfl (fun ls hl => ?_)
  refine lv_iconst (v := 0) hx hb dX5_literal_2 (by decide) ?_
  refine lv_istore_n (lv' := [(3, .int 0), (2, .int 0), (0, .ref qa900), (1, .int zi901)]) hx hb dX5_literal_3 rfl hl (by decide) rfl (fun ls hl => ?_)
  have jn236 : ∀ (hp232 : Nat → Nat → Value) (zi231 : Int32) (H : Heap) (locs : List Loc) (ls : Array Slot), Ok K hp232 → Fr [6002, 6003, 6004] K hp0 hp232 → ((0 : Int) ≤ zi231.toInt ∧ zi231.toInt ≤ 1) → lv_has ls 6 [(0, .ref qa900), (1, .int zi901), (2, .int zi231)] → PW G cy K ln Ls A hp232 H → va_S A s.heap H locs → W p l e ({ frames := 11, cells := 0, slots := 0, locals := 265 } : Room) s m ([.ref qa900, .int zi901] : List Value).toArray below meth c H locs 0 0 Q (F0 m 36 ls []) := by
    intro hp232 zi231 H locs ls ok234 F233 bd235 hl hw hS
    refine lv_lconst (v := 0) hx hb dX5_literal_36 (by decide) ?_
    refine lv_lstore_n (lv' := [(3, .long 0), (0, .ref qa900), (1, .int zi901), (2, .int zi231)]) hx hb dX5_literal_37 rfl hl (by decide) rfl (fun ls hl => ?_)
    refine lv_aload_n hx hb dX5_literal_38 rfl (lv_at hl 1 rfl) ?_
    obtain ⟨zi238, eq237⟩ := rd_6003 ok234 kd900
    refine p_get (ci := 5) (v := .int zi238) (C := RX5) (T := TX5) (N := 7) hx hb hT iw_X5 hown hK hw hW kd900 (by decide) rfl rfl 3 (by decide) eq237 (hT _ tb_374) (fun _ h9 => h9) dX5_literal_39 ?_
    refine lv_bipush (v := 40) hx hb dX5_literal_42 (by decide) ?_
    have jn319 : ∀ (hp316 : Nat → Nat → Value) (wl315 : Int64) (H : Heap) (locs : List Loc) (ls : Array Slot), Ok K hp316 → Fr [6002, 6003, 6004, 6005, 6006] K hp232 hp316 → lv_has ls 6 [(2, .int zi231), (3, .long wl315)] → PW G cy K ln Ls A hp316 H → va_S A s.heap H locs → W p l e ({ frames := 11, cells := 0, slots := 0, locals := 265 } : Room) s m ([.ref qa900, .int zi901] : List Value).toArray below meth c H locs 0 0 Q (F0 m 113 ls []) := by
      intro hp316 wl315 H locs ls ok318 F317 hl hw hS
      refine lv_iload_n hx hb dX5_literal_113 rfl (lv_at hl 0 rfl) ?_
      refine lv_if_eq (tgt := 125) hx hb dX5_literal_114 (by decide) (fun cn320 => ?_) (fun cn320 => ?_)
      · skip
        have bd321 : (0 : Int) ≤ zi231.toInt ∧ zi231.toInt ≤ 0 := r_eq_x cn320 bd235 bc_0 (by decide) (by decide)
        refine lv_lload_n hx hb dX5_literal_125 rfl (lv_at hl 1 rfl) ?_
        rw [hQ]
        exact kz_l hx hb hr hlocks hS hp316 hw ⟨ok318, (Fr.tr (Fr.tr (Fr.rf) F233 (by decide)) F317 (by decide))⟩ (Nat.le_of_ble_eq_true rfl) (Nat.le_of_ble_eq_true rfl) dX5_literal_126
      · skip
        have bd322 : (1 : Int) ≤ zi231.toInt ∧ zi231.toInt ≤ 1 := r_ne_lo cn320 bd235 (toi bc_0) (by decide) (by decide)
        refine lv_lload_n hx hb dX5_literal_117 rfl (lv_at hl 1 rfl) ?_
        refine lv_ldc2 (v := (-1)) hx hb hown (hT _ tb_925) dX5_literal_118 ?_
        refine lv_lxor hx hb dX5_literal_121 (lv_topl (fun wl323 _ => ?_))
        refine lv_goto (tgt := 126) hx hb dX5_literal_122 (by decide) ?_
        rw [hQ]
        exact kz_l hx hb hr hlocks hS hp316 hw ⟨ok318, (Fr.tr (Fr.tr (Fr.rf) F233 (by decide)) F317 (by decide))⟩ (Nat.le_of_ble_eq_true rfl) (Nat.le_of_ble_eq_true rfl) dX5_literal_126
    refine lv_icmp_ne (tgt := 72) hx hb dX5_literal_44 (by decide) (fun cn239 => ?_) (fun cn239 => ?_)
    · skip
      refine lv_aload_n hx hb dX5_literal_72 rfl (lv_at hl 1 rfl) ?_
      obtain ⟨qa325, eq324, kd326⟩ := rd_6001 ok234 kd900
      refine p_get (ci := 5) (v := .ref qa325) (C := RX5) (T := TX5) (N := 7) hx hb hT iw_X5 hown hK hw hW kd900 (by decide) rfl rfl 1 (by decide) eq324 (hT _ tb_372) (fun _ h9 => h9) dX5_literal_73 ?_
      refine lv_aload_n hx hb dX5_literal_76 rfl (lv_at hl 1 rfl) ?_
      refine lv_iconst (v := 2) hx hb dX5_literal_77 (by decide) ?_
      refine kq_l hw hS hA (va_runV (As := [.int 2]) (rest := [.ref qa325]) ⟨hx, hb, hml, hown, hT⟩ (cX5_take_0 l G cy ev K ln Ls hW _ hp232 ok234 qa900 2 kd900) (cwV 1 hT (good_V tb_862 tb_859 tb_861 tb_10 tb_109) rfl rfl rfl (by decide +kernel) ⟨Nat.le_of_ble_eq_true rfl, Nat.le_of_ble_eq_true rfl⟩) (pool_preV (ci := 5) hK hE hS hA hw hW kd900 (by decide) rfl) rfl rfl hl.1 rfl (lv_room (Nat.le_of_ble_eq_true rfl)) dX5_literal_78 ⟨Nat.le_of_ble_eq_true rfl, Nat.le_of_ble_eq_true rfl⟩) (fun wl331 hp327 H locs hq330 hw hS => ?_)
      obtain ⟨ok328, F329⟩ := hq330
      have hw : PW G cy K ln Ls A hp327 H := hw
      refine kq_i hw hS hA (va_runV (As := [.long wl331]) (rest := []) ⟨hx, hb, hml, hown, hT⟩ (cX10_factNamed_0 l G cy ev K ln Ls hW _ hp327 ok328 qa325 wl331 kd326) (cwV 1 hT (good_V tb_870 tb_923 tb_868 tb_869 tb_107) rfl rfl rfl (by decide +kernel) ⟨Nat.le_of_ble_eq_true rfl, Nat.le_of_ble_eq_true rfl⟩) (pool_preV (ci := 10) hK hE hS hA hw hW kd326 (by decide) rfl) rfl rfl hl.1 rfl (lv_room (Nat.le_of_ble_eq_true rfl)) dX5_literal_81 ⟨Nat.le_of_ble_eq_true rfl, Nat.le_of_ble_eq_true rfl⟩) (fun zi336 hp332 H locs hq335 hw hS => ?_)
      obtain ⟨ok333, F334, bd337⟩ := hq335
      obtain rfl : hp327 = hp332 := (Fr.nil F334).symm
      have hw : PW G cy K ln Ls A hp327 H := hw
      refine lv_istore (lv' := [(5, .int zi336), (3, .long 0), (0, .ref qa900), (1, .int zi901), (2, .int zi231)]) hx hb dX5_literal_84 hl (by decide) rfl (fun ls hl => ?_)
      refine lv_iload hx hb dX5_literal_86 (lv_at hl 0 rfl) ?_
      refine lv_if_lt (tgt := 108) hx hb dX5_literal_88 (by decide) (fun cn338 => ?_) (fun cn338 => ?_)
      · skip
        have bd339 : (-1 : Int) ≤ zi336.toInt ∧ zi336.toInt ≤ -1 := r_lt_x cn338 bd337 bc_0 (by decide) (by decide)
        refine lv_aload_n hx hb dX5_literal_108 rfl (lv_at hl 2 rfl) ?_
        refine lv_iconst (v := 4) hx hb dX5_literal_109 (by decide) ?_
        refine kq_v hw hS hA (va_runV (As := [.int 4]) (rest := []) ⟨hx, hb, hml, hown, hT⟩ (cX5_failSoftly_0 l G cy ev K ln Ls hW _ hp327 ok328 qa900 4 kd900) (cwV 1 hT (good_V tb_881 tb_878 tb_880 tb_11 tb_109) rfl rfl rfl (by decide +kernel) ⟨Nat.le_of_ble_eq_true rfl, Nat.le_of_ble_eq_true rfl⟩) (pool_preV (ci := 5) hK hE hS hA hw hW kd900 (by decide) rfl) rfl rfl hl.1 rfl (lv_room (Nat.le_of_ble_eq_true rfl)) dX5_literal_110 ⟨Nat.le_of_ble_eq_true rfl, Nat.le_of_ble_eq_true rfl⟩) (fun hp340 H locs hq343 hw hS => ?_)
        obtain ⟨ok341, F342⟩ := hq343
        have hw : PW G cy K ln Ls A hp340 H := hw
        exact jn319 hp340 0 _ _ ls ok341 (Fr.tr (Fr.tr (Fr.rf) F329 (by decide)) F342 (by decide)) (lv_sub hl [4, 1] rfl) hw hS
      · skip
        have bd345 : (0 : Int) ≤ zi336.toInt ∧ zi336.toInt ≤ 5 := r_le_y (Int32.not_lt.mp cn338) bc_0 bd337 (by decide) (by decide)
        refine lv_iload hx hb dX5_literal_91 (lv_at hl 0 rfl) ?_
        refine lv_bipush (v := 6) hx hb dX5_literal_93 (by decide) ?_
        refine lv_icmp_ge (tgt := 108) hx hb dX5_literal_95 (by decide) (fun c => absurd c (d_nle bc_6 bd345 (by decide))) (fun _ => ?_)
        refine va_getsN hx hb hE.2.1 hS hown (hK.fl nw_820) (fun _ h9 => h9) dX5_literal_98 ?_
        refine lv_iload hx hb dX5_literal_101 (lv_at hl 0 rfl) ?_
        obtain ⟨wl346, _⟩ : ∃ w : Int64, w = ev.2.2 (zi336 : Int32).toNatClampNeg := ⟨_, rfl⟩
        refine va_tl (v := .long (ev.2.2 (zi336 : Int32).toNatClampNeg)) hx hb hE.2.2 hS (vp_b bd345 (by decide) (by decide)) rfl dX5_literal_103 (lv_topl (fun wl346x _ => ?_))
        refine lv_lstore_n (lv' := [(3, .long wl346x), (5, .int zi336), (0, .ref qa900), (1, .int zi901), (2, .int zi231)]) hx hb dX5_literal_104 rfl hl (by decide) rfl (fun ls hl => ?_)
        refine lv_goto (tgt := 113) hx hb dX5_literal_105 (by decide) ?_
        exact jn319 hp327 wl346x _ _ ls ok328 (Fr.tr (Fr.rf) F329 (by decide)) (lv_sub hl [4, 0] rfl) hw hS
    · skip
      have bd347 : (40 : Int) ≤ zi238.toInt ∧ zi238.toInt ≤ 40 := r_eq_x cn239 (b_all zi238) bc_40 (by decide) (by decide)
      refine lv_aload_n hx hb dX5_literal_47 rfl (lv_at hl 1 rfl) ?_
      refine lv_iload_n hx hb dX5_literal_48 rfl (lv_at hl 2 rfl) ?_
      refine kq_i hw hS hA (va_runV (As := [.int zi901]) (rest := []) ⟨hx, hb, hml, hown, hT⟩ (cX5_enter_3 l G cy ev K ln Ls hW _ hp232 ok234 qa900 zi901 kd900 (b_wid2 bd901 (by decide) (by decide))) (cwV 1 hT (good_V tb_922 tb_919 tb_921 tb_18 tb_109) rfl rfl rfl (by decide +kernel) ⟨Nat.le_of_ble_eq_true rfl, Nat.le_of_ble_eq_true rfl⟩) (pool_preV (ci := 5) hK hE hS hA hw hW kd900 (by decide) rfl) rfl rfl hl.1 rfl (lv_room (Nat.le_of_ble_eq_true rfl)) dX5_literal_49 ⟨Nat.le_of_ble_eq_true rfl, Nat.le_of_ble_eq_true rfl⟩) (fun zi352 hp348 H locs hq351 hw hS => ?_)
      obtain ⟨ok349, F350, bd353, hc354, hc355⟩ := hq351
      have hw : PW G cy K ln Ls A hp348 H := hw
      have jn377 : ∀ (hp374 : Nat → Nat → Value) (wl373 : Int64) (H : Heap) (locs : List Loc) (ls : Array Slot), Ok K hp374 → Fr [6002, 6003, 6004, 6005, 6006] K hp348 hp374 → lv_has ls 6 [(0, .ref qa900), (2, .int zi231), (3, .long wl373)] → PW G cy K ln Ls A hp374 H → va_S A s.heap H locs → W p l e ({ frames := 11, cells := 0, slots := 0, locals := 265 } : Room) s m ([.ref qa900, .int zi901] : List Value).toArray below meth c H locs 0 0 Q (F0 m 63 ls []) := by
        intro hp374 wl373 H locs ls ok376 F375 hl hw hS
        refine lv_aload_n hx hb dX5_literal_63 rfl (lv_at hl 0 rfl) ?_
        refine lv_bipush (v := 41) hx hb dX5_literal_64 (by decide) ?_
        refine kq_v hw hS hA (va_runV (As := [.int 41]) (rest := []) ⟨hx, hb, hml, hown, hT⟩ (cX5_expect_0 l G cy ev K ln Ls hW _ hp374 ok376 qa900 41 kd900) (cwV 1 hT (good_V tb_889 tb_886 tb_888 tb_12 tb_109) rfl rfl rfl (by decide +kernel) ⟨Nat.le_of_ble_eq_true rfl, Nat.le_of_ble_eq_true rfl⟩) (pool_preV (ci := 5) hK hE hS hA hw hW kd900 (by decide) rfl) rfl rfl hl.1 rfl (lv_room (Nat.le_of_ble_eq_true rfl)) dX5_literal_66 ⟨Nat.le_of_ble_eq_true rfl, Nat.le_of_ble_eq_true rfl⟩) (fun hp378 H locs hq381 hw hS => ?_)
        obtain ⟨ok379, F380⟩ := hq381
        have hw : PW G cy K ln Ls A hp378 H := hw
        refine lv_goto (tgt := 113) hx hb dX5_literal_69 (by decide) ?_
        exact jn319 hp378 wl373 _ _ ls ok379 (Fr.tr (Fr.tr (Fr.tr (Fr.rf) F350 (by decide)) F375 (by decide)) F380 (by decide)) (lv_sub hl [1, 2] rfl) hw hS
      rcases b01 bd353 with cn356 | cn356
      · skip
        subst cn356
        refine lv_if_eq (tgt := 63) hx hb dX5_literal_52 (by decide) (fun _ => ?_) (fun c => absurd (d_eq bc_0 bc_0) c)
        exact jn377 hp348 0 _ _ ls ok349 (Fr.rf) (lv_sub hl [1, 3, 0] rfl) hw hS
      · skip
        subst cn356
        obtain ⟨zi383, eq384, bd385⟩ := hc354 rfl
        obtain ⟨zi386, eq387, bd388⟩ := hc355 rfl
        refine lv_if_eq (tgt := 63) hx hb dX5_literal_52 (by decide) (fun c => absurd c (d_ne bc_1 bc_0 (by decide))) (fun _ => ?_)
        refine lv_aload_n hx hb dX5_literal_55 rfl (lv_at hl 1 rfl) ?_
        refine lv_iload_n hx hb dX5_literal_56 rfl (lv_at hl 2 rfl) ?_
        refine lv_iconst (v := 1) hx hb dX5_literal_57 (by decide) ?_
        refine lv_iadd hx hb dX5_literal_58 (lv_topi (fun zi389 ea390 => ?_))
        have bd391 : (4 : Int) ≤ zi389.toInt ∧ zi389.toInt ≤ 4 := b_iadd ea390 bd901 bc_1 (by decide) (by decide) (by decide) (by decide)
        have qe392 : zi389.toInt = (zi901 : Int32).toInt + (1 : Int32).toInt := e_iadd ea390 bd901 bc_1 (by decide) (by decide)
        have qe393 : zi389.toInt = zi901.toInt + 1 := by have ha : (1 : Int32).toInt = 1 := (by decide); rw [ha] at qe392; exact qe392
        refine kq_l hw hS hA (va_runV (As := [.int zi389]) (rest := []) ⟨hx, hb, hml, hown, hT⟩ (cX5_cond_2 l G cy ev K ln Ls hW _ hp348 ok349 qa900 zi389 kd900 (b_wid2 bd391 (by decide) (by decide))) (cwV 1 hT (good_V tb_910 tb_907 tb_909 tb_15 tb_109) rfl rfl rfl (by decide +kernel) ⟨Nat.le_of_ble_eq_true rfl, Nat.le_of_ble_eq_true rfl⟩) (pool_preV (ci := 5) hK hE hS hA hw hW kd900 (by decide) rfl) rfl rfl hl.1 rfl (lv_room (Nat.le_of_ble_eq_true rfl)) dX5_literal_59 ⟨Nat.le_of_ble_eq_true rfl, Nat.le_of_ble_eq_true rfl⟩) (fun wl398 hp394 H locs hq397 hw hS => ?_)
        obtain ⟨ok395, F396⟩ := hq397
        have hw : PW G cy K ln Ls A hp394 H := hw
        refine lv_lstore_n (lv' := [(3, .long wl398), (0, .ref qa900), (1, .int zi901), (2, .int zi231)]) hx hb dX5_literal_62 rfl hl (by decide) rfl (fun ls hl => ?_)
        exact jn377 hp394 wl398 _ _ ls ok395 (Fr.tr (Fr.rf) F396 (by decide)) (lv_sub hl [1, 3, 0] rfl) hw hS
  have lp401 : ∀ (n399 : Nat) (hp164 : Nat → Nat → Value) (zi162 : Int32) (zi163 : Int32) (H : Heap) (locs : List Loc) (ls : Array Slot), 401 - zi163.toInt < (n399 : Int) → Ok K hp164 → Fr [6002, 6003, 6004] K hp0 hp164 → ((0 : Int) ≤ zi162.toInt ∧ zi162.toInt ≤ 1) → ((0 : Int) ≤ zi163.toInt ∧ zi163.toInt ≤ 401) → lv_has ls 6 [(0, .ref qa900), (1, .int zi901), (2, .int zi162), (3, .int zi163)] → PW G cy K ln Ls A hp164 H → va_S A s.heap H locs → W p l e ({ frames := 11, cells := 0, slots := 0, locals := 265 } : Room) s m ([.ref qa900, .int zi901] : List Value).toArray below meth c H locs 0 0 Q (F0 m 4 ls []) := by
    intro n399
    induction n399 with
    | zero =>
      intro hp164 zi162 zi163 H locs ls hm402 ok166 F165 bd167 bd168 hl hw hS
      exact absurd hm402 (by have := bd168; omega)
    | succ n399 ih400 =>
      intro hp164 zi162 zi163 H locs ls hm402 ok166 F165 bd167 bd168 hl hw hS
      refine lv_iload_n hx hb dX5_literal_4 rfl (lv_at hl 3 rfl) ?_
      refine lv_sipush (v := 400) hx hb dX5_literal_5 (by decide) ?_
      refine lv_icmp_gt (tgt := 36) hx hb dX5_literal_8 (by decide) (fun cn403 => ?_) (fun cn403 => ?_)
      · skip
        have bd404 : (401 : Int) ≤ zi163.toInt ∧ zi163.toInt ≤ 401 := r_lt_y cn403 bc_400 bd168 (by decide) (by decide)
        exact jn236 hp164 zi162 _ _ ls ok166 (Fr.tr (Fr.rf) F165 (by decide)) (b_wid2 bd167 (by decide) (by decide)) (lv_sub hl [0, 1, 2] rfl) hw hS
      · skip
        have bd405 : (0 : Int) ≤ zi163.toInt ∧ zi163.toInt ≤ 400 := r_le_x (Int32.not_lt.mp cn403) bd168 bc_400 (by decide) (by decide)
        refine lv_aload_n hx hb dX5_literal_11 rfl (lv_at hl 0 rfl) ?_
        refine lv_bipush (v := 113) hx hb dX5_literal_12 (by decide) ?_
        refine kq_i hw hS hA (va_runV (As := [.int 113]) (rest := []) ⟨hx, hb, hml, hown, hT⟩ (cX5_accept_0 l G cy ev K ln Ls hW _ hp164 ok166 qa900 113 kd900) (cwV 1 hT (good_V tb_854 tb_851 tb_853 tb_8 tb_109) rfl rfl rfl (by decide +kernel) ⟨Nat.le_of_ble_eq_true rfl, Nat.le_of_ble_eq_true rfl⟩) (pool_preV (ci := 5) hK hE hS hA hw hW kd900 (by decide) rfl) rfl rfl hl.1 rfl (lv_room (Nat.le_of_ble_eq_true rfl)) dX5_literal_14 ⟨Nat.le_of_ble_eq_true rfl, Nat.le_of_ble_eq_true rfl⟩) (fun zi410 hp406 H locs hq409 hw hS => ?_)
        obtain ⟨ok407, F408, bd411, hc412, hc413⟩ := hq409
        have hw : PW G cy K ln Ls A hp406 H := hw
        rcases b01 bd411 with cn414 | cn414
        · skip
          subst cn414
          refine lv_if_eq (tgt := 36) hx hb dX5_literal_17 (by decide) (fun _ => ?_) (fun c => absurd (d_eq bc_0 bc_0) c)
          exact jn236 hp406 zi162 _ _ ls ok407 (Fr.tr (Fr.tr (Fr.rf) F165 (by decide)) F408 (by decide)) (b_wid2 bd167 (by decide) (by decide)) (lv_sub hl [0, 1, 2] rfl) hw hS
        · skip
          subst cn414
          obtain ⟨zi415, eq416, bd417⟩ := hc412 rfl
          obtain ⟨zi418, eq419, bd420⟩ := hc413 rfl
          refine lv_if_eq (tgt := 36) hx hb dX5_literal_17 (by decide) (fun c => absurd c (d_ne bc_1 bc_0 (by decide))) (fun _ => ?_)
          refine lv_iload_n hx hb dX5_literal_20 rfl (lv_at hl 2 rfl) ?_
          have jn426 : ∀ (zi424 : Int32) (H : Heap) (locs : List Loc) (ls : Array Slot), ((0 : Int) ≤ zi424.toInt ∧ zi424.toInt ≤ 1) → lv_has ls 6 [(0, .ref qa900), (1, .int zi901), (3, .int zi163)] → PW G cy K ln Ls A hp406 H → va_S A s.heap H locs → W p l e ({ frames := 11, cells := 0, slots := 0, locals := 265 } : Room) s m ([.ref qa900, .int zi901] : List Value).toArray below meth c H locs 0 0 Q (F0 m 29 ls [.int zi424]) := by
            intro zi424 H locs ls bd425 hl hw hS
            refine lv_istore_n (lv' := [(2, .int zi424), (0, .ref qa900), (1, .int zi901), (3, .int zi163)]) hx hb dX5_literal_29 rfl hl (by decide) rfl (fun ls hl => ?_)
            obtain ⟨zi427, ea428⟩ : ∃ z : Int32, z = zi163 + 1 := ⟨_, rfl⟩
            have bd429 : (1 : Int) ≤ zi427.toInt ∧ zi427.toInt ≤ 401 := b_iadd ea428 bd405 bc_1 (by decide) (by decide) (by decide) (by decide)
            have qe430 : zi427.toInt = (zi163 : Int32).toInt + (1 : Int32).toInt := e_iadd ea428 bd405 bc_1 (by decide) (by decide)
            have qe431 : zi427.toInt = zi163.toInt + 1 := by have ha : (1 : Int32).toInt = 1 := (by decide); rw [ha] at qe430; exact qe430
            refine lv_iinc (v := zi427) (lv' := [(3, .int zi427), (2, .int zi424), (0, .ref qa900), (1, .int zi901)]) hx hb dX5_literal_30 hl (k := 3) rfl ea428.symm (by decide) rfl (fun ls hl => ?_)
            refine lv_goto (tgt := 4) hx hb dX5_literal_33 (by decide) ?_
            exact ih400 hp406 zi424 zi427 _ _ ls (by have := hm402; have := qe431; omega) ok407 (Fr.tr (Fr.tr (Fr.rf) F165 (by decide)) F408 (by decide)) (b_wid2 bd425 (by decide) (by decide)) (b_wid2 bd429 (by decide) (by decide)) (lv_sub hl [2, 3, 1, 0] rfl) hw hS
          refine lv_if_ne (tgt := 28) hx hb dX5_literal_21 (by decide) (fun cn421 => ?_) (fun cn421 => ?_)
          · skip
            have bd432 : (1 : Int) ≤ zi162.toInt ∧ zi162.toInt ≤ 1 := r_ne_lo cn421 bd167 (toi bc_0) (by decide) (by decide)
            refine lv_iconst (v := 0) hx hb dX5_literal_28 (by decide) ?_
            exact jn426 0 _ _ ls (b_wid2 bc_0 (by decide) (by decide)) (lv_sub hl [0, 1, 3] rfl) hw hS
          · skip
            have bd433 : (0 : Int) ≤ zi162.toInt ∧ zi162.toInt ≤ 0 := r_eq_x cn421 bd167 bc_0 (by decide) (by decide)
            refine lv_iconst (v := 1) hx hb dX5_literal_24 (by decide) ?_
            refine lv_goto (tgt := 29) hx hb dX5_literal_25 (by decide) ?_
            exact jn426 1 _ _ ls (b_wid2 bc_1 (by decide) (by decide)) (lv_sub hl [0, 1, 3] rfl) hw hS
  exact lp401 _ hp0 0 0 _ _ ls (lp_in _) ok0 (Fr.rf) (b_wid2 bc_0 (by decide) (by decide)) (b_wid2 bc_0 (by decide) (by decide)) (lv_sub hl [2, 3, 1, 0] rfl) hw hS

set_option maxRecDepth 100000 in
set_option maxHeartbeats 4000000 in
theorem cX5_all_3 (l : Launch) (G : va_G) (cy : Nat → ClassId) (ev : Ew) (K ln : Nat → Nat) (Ls : List Nat) (hW : SW K ln Ls) (sz : Nat) (hp0 : Nat → Nat → Value) (ok0 : Ok K hp0) (qa900 : Nat) (zi901 : Int32) (kd900 : K qa900 = 6) (bd901 : ((3 : Int) ≤ zi901.toInt ∧ zi901.toInt ≤ 3)) : Met l yX5_all (WS yX5_all cX5_all 5 (some .long)) { frames := 12, cells := 0, slots := 0, locals := 290 } (PB2 [.ref qa900, .int zi901] sz G cy ev (va_pl Ls (cellOf cy K ln hp0))) (QBl (S := (Nat → Nat → Value)) (fun (r : Int64) (u : (Nat → Nat → Value)) => Ok K u ∧ Fr [6002, 6003, 6004, 6005, 6006] K hp0 u) G (fun u => va_pl Ls (cellOf cy K ln u)) (va_A (va_pl Ls (cellOf cy K ln hp0)) sz)) 0 0 (va_A (va_pl Ls (cellOf cy K ln hp0)) sz) := by
  refine met_of2 (y := yX5_all) (L := 5) (av := [.ref qa900, .int zi901]) (Qc := fun A => QBl (S := (Nat → Nat → Value)) (fun (r : Int64) (u : (Nat → Nat → Value)) => Ok K u ∧ Fr [6002, 6003, 6004, 6005, 6006] K hp0 u) G (fun u => va_pl Ls (cellOf cy K ln u)) A) (plainFor_of_name (by decide)) (Nat.le_of_ble_eq_true rfl) ?_
  intro p e s m below meth c hsz hx hb hr hml hown hT hlocks hin hK A hA hE hw hS ls hl
  have hw : PW G cy K ln Ls A hp0 s.heap := hw
  have hown : s.vm.findClass "LieClock$Parser" = some m.cls := hown
  have hl : lv_has ls 5 [(0, .ref qa900), (1, .int zi901)] := hl
  obtain ⟨Q, hQ⟩ : ∃ Q : State → Prop, Q = MQ below (QBl (S := (Nat → Nat → Value)) (fun (r : Int64) (u : (Nat → Nat → Value)) => Ok K u ∧ Fr [6002, 6003, 6004, 6005, 6006] K hp0 u) G (fun u => va_pl Ls (cellOf cy K ln u)) A) ([.ref qa900, .int zi901] : List Value).toArray s 0 0 A := ⟨_, rfl⟩
  rw [← hQ]
  refine lv_aload_n hx hb dX5_all_0 rfl (lv_at hl 0 rfl) ?_
  refine lv_iload_n hx hb dX5_all_1 rfl (lv_at hl 1 rfl) ?_
  refine kq_l hw hS hA (va_runV (As := [.int zi901]) (rest := []) ⟨hx, hb, hml, hown, hT⟩ (cX5_literal_3 l G cy ev K ln Ls hW _ hp0 ok0 qa900 zi901 kd900 (b_wid2 bd901 (by decide) (by decide))) (cwV 1 hT (good_V tb_918 tb_915 tb_917 tb_17 tb_109) rfl rfl rfl (by decide +kernel) ⟨Nat.le_of_ble_eq_true rfl, Nat.le_of_ble_eq_true rfl⟩) (pool_preV (ci := 5) hK hE hS hA hw hW kd900 (by decide) rfl) rfl rfl hl.1 rfl (lv_room (Nat.le_of_ble_eq_true rfl)) dX5_all_2 ⟨Nat.le_of_ble_eq_true rfl, Nat.le_of_ble_eq_true rfl⟩) (fun wl5 hp1 H locs hq4 hw hS => ?_)
  obtain ⟨ok2, F3⟩ := hq4
  have hw : PW G cy K ln Ls A hp1 H := hw
  refine lv_lstore_n (lv' := [(2, .long wl5), (0, .ref qa900), (1, .int zi901)]) hx hb dX5_all_5 rfl hl (by decide) rfl (fun ls hl => ?_)
  refine lv_iconst (v := 0) hx hb dX5_all_6 (by decide) ?_
  refine lv_istore (lv' := [(4, .int 0), (2, .long wl5), (0, .ref qa900), (1, .int zi901)]) hx hb dX5_all_7 hl (by decide) rfl (fun ls hl => ?_)
  have jn229 : ∀ (hp226 : Nat → Nat → Value) (wl225 : Int64) (H : Heap) (locs : List Loc) (ls : Array Slot), Ok K hp226 → Fr [6002, 6003, 6004, 6005, 6006] K hp1 hp226 → lv_has ls 5 [(2, .long wl225)] → PW G cy K ln Ls A hp226 H → va_S A s.heap H locs → W p l e ({ frames := 12, cells := 0, slots := 0, locals := 290 } : Room) s m ([.ref qa900, .int zi901] : List Value).toArray below meth c H locs 0 0 Q (F0 m 40 ls []) := by
    intro hp226 wl225 H locs ls ok228 F227 hl hw hS
    refine lv_lload_n hx hb dX5_all_40 rfl (lv_at hl 0 rfl) ?_
    rw [hQ]
    exact kz_l hx hb hr hlocks hS hp226 hw ⟨ok228, (Fr.tr (Fr.tr (Fr.rf) F3 (by decide)) F227 (by decide))⟩ (Nat.le_of_ble_eq_true rfl) (Nat.le_of_ble_eq_true rfl) dX5_all_41
  have lp232 : ∀ (n230 : Nat) (hp163 : Nat → Nat → Value) (wl161 : Int64) (zi162 : Int32) (H : Heap) (locs : List Loc) (ls : Array Slot), 401 - zi162.toInt < (n230 : Int) → Ok K hp163 → Fr [6002, 6003, 6004, 6005, 6006] K hp1 hp163 → ((0 : Int) ≤ zi162.toInt ∧ zi162.toInt ≤ 401) → lv_has ls 5 [(0, .ref qa900), (1, .int zi901), (2, .long wl161), (4, .int zi162)] → PW G cy K ln Ls A hp163 H → va_S A s.heap H locs → W p l e ({ frames := 12, cells := 0, slots := 0, locals := 290 } : Room) s m ([.ref qa900, .int zi901] : List Value).toArray below meth c H locs 0 0 Q (F0 m 9 ls []) := by
    intro n230
    induction n230 with
    | zero =>
      intro hp163 wl161 zi162 H locs ls hm233 ok165 F164 bd166 hl hw hS
      exact absurd hm233 (by have := bd166; omega)
    | succ n230 ih231 =>
      intro hp163 wl161 zi162 H locs ls hm233 ok165 F164 bd166 hl hw hS
      refine lv_iload hx hb dX5_all_9 (lv_at hl 3 rfl) ?_
      refine lv_sipush (v := 400) hx hb dX5_all_11 (by decide) ?_
      refine lv_icmp_gt (tgt := 40) hx hb dX5_all_14 (by decide) (fun cn234 => ?_) (fun cn234 => ?_)
      · skip
        have bd235 : (401 : Int) ≤ zi162.toInt ∧ zi162.toInt ≤ 401 := r_lt_y cn234 bc_400 bd166 (by decide) (by decide)
        exact jn229 hp163 wl161 _ _ ls ok165 (Fr.tr (Fr.rf) F164 (by decide)) (lv_sub hl [2] rfl) hw hS
      · skip
        have bd236 : (0 : Int) ≤ zi162.toInt ∧ zi162.toInt ≤ 400 := r_le_x (Int32.not_lt.mp cn234) bd166 bc_400 (by decide) (by decide)
        refine lv_aload_n hx hb dX5_all_17 rfl (lv_at hl 0 rfl) ?_
        refine lv_bipush (v := 112) hx hb dX5_all_18 (by decide) ?_
        refine kq_i hw hS hA (va_runV (As := [.int 112]) (rest := []) ⟨hx, hb, hml, hown, hT⟩ (cX5_accept_0 l G cy ev K ln Ls hW _ hp163 ok165 qa900 112 kd900) (cwV 1 hT (good_V tb_854 tb_851 tb_853 tb_8 tb_109) rfl rfl rfl (by decide +kernel) ⟨Nat.le_of_ble_eq_true rfl, Nat.le_of_ble_eq_true rfl⟩) (pool_preV (ci := 5) hK hE hS hA hw hW kd900 (by decide) rfl) rfl rfl hl.1 rfl (lv_room (Nat.le_of_ble_eq_true rfl)) dX5_all_20 ⟨Nat.le_of_ble_eq_true rfl, Nat.le_of_ble_eq_true rfl⟩) (fun zi241 hp237 H locs hq240 hw hS => ?_)
        obtain ⟨ok238, F239, bd242, hc243, hc244⟩ := hq240
        have hw : PW G cy K ln Ls A hp237 H := hw
        rcases b01 bd242 with cn245 | cn245
        · skip
          subst cn245
          refine lv_if_eq (tgt := 40) hx hb dX5_all_23 (by decide) (fun _ => ?_) (fun c => absurd (d_eq bc_0 bc_0) c)
          exact jn229 hp237 wl161 _ _ ls ok238 (Fr.tr (Fr.tr (Fr.rf) F164 (by decide)) F239 (by decide)) (lv_sub hl [2] rfl) hw hS
        · skip
          subst cn245
          obtain ⟨zi246, eq247, bd248⟩ := hc243 rfl
          obtain ⟨zi249, eq250, bd251⟩ := hc244 rfl
          refine lv_if_eq (tgt := 40) hx hb dX5_all_23 (by decide) (fun c => absurd c (d_ne bc_1 bc_0 (by decide))) (fun _ => ?_)
          refine lv_lload_n hx hb dX5_all_26 rfl (lv_at hl 2 rfl) ?_
          refine lv_aload_n hx hb dX5_all_27 rfl (lv_at hl 0 rfl) ?_
          refine lv_iload_n hx hb dX5_all_28 rfl (lv_at hl 1 rfl) ?_
          refine kq_l hw hS hA (va_runV (As := [.int zi901]) (rest := [.long wl161]) ⟨hx, hb, hml, hown, hT⟩ (cX5_literal_3 l G cy ev K ln Ls hW _ hp237 ok238 qa900 zi901 kd900 (b_wid2 bd901 (by decide) (by decide))) (cwV 1 hT (good_V tb_918 tb_915 tb_917 tb_17 tb_109) rfl rfl rfl (by decide +kernel) ⟨Nat.le_of_ble_eq_true rfl, Nat.le_of_ble_eq_true rfl⟩) (pool_preV (ci := 5) hK hE hS hA hw hW kd900 (by decide) rfl) rfl rfl hl.1 rfl (lv_room (Nat.le_of_ble_eq_true rfl)) dX5_all_29 ⟨Nat.le_of_ble_eq_true rfl, Nat.le_of_ble_eq_true rfl⟩) (fun wl256 hp252 H locs hq255 hw hS => ?_)
          obtain ⟨ok253, F254⟩ := hq255
          have hw : PW G cy K ln Ls A hp252 H := hw
          refine lv_land hx hb dX5_all_32 (lv_topl (fun wl257 _ => ?_))
          refine lv_lstore_n (lv' := [(2, .long wl257), (0, .ref qa900), (1, .int zi901), (4, .int zi162)]) hx hb dX5_all_33 rfl hl (by decide) rfl (fun ls hl => ?_)
          obtain ⟨zi258, ea259⟩ : ∃ z : Int32, z = zi162 + 1 := ⟨_, rfl⟩
          have bd260 : (1 : Int) ≤ zi258.toInt ∧ zi258.toInt ≤ 401 := b_iadd ea259 bd236 bc_1 (by decide) (by decide) (by decide) (by decide)
          have qe261 : zi258.toInt = (zi162 : Int32).toInt + (1 : Int32).toInt := e_iadd ea259 bd236 bc_1 (by decide) (by decide)
          have qe262 : zi258.toInt = zi162.toInt + 1 := by have ha : (1 : Int32).toInt = 1 := (by decide); rw [ha] at qe261; exact qe261
          refine lv_iinc (v := zi258) (lv' := [(4, .int zi258), (2, .long wl257), (0, .ref qa900), (1, .int zi901)]) hx hb dX5_all_34 hl (k := 3) rfl ea259.symm (by decide) rfl (fun ls hl => ?_)
          refine lv_goto (tgt := 9) hx hb dX5_all_37 (by decide) ?_
          exact ih231 hp252 wl257 zi258 _ _ ls (by have := hm233; have := qe262; omega) ok253 (Fr.tr (Fr.tr (Fr.tr (Fr.rf) F164 (by decide)) F239 (by decide)) F254 (by decide)) (b_wid2 bd260 (by decide) (by decide)) (lv_sub hl [2, 3, 1, 0] rfl) hw hS
  exact lp232 _ hp1 wl5 0 _ _ ls (lp_in _) ok2 (Fr.rf) (b_wid2 bc_0 (by decide) (by decide)) (lv_sub hl [2, 3, 1, 0] rfl) hw hS

set_option maxRecDepth 100000 in
set_option maxHeartbeats 4000000 in
theorem cX5_cond_3 (l : Launch) (G : va_G) (cy : Nat → ClassId) (ev : Ew) (K ln : Nat → Nat) (Ls : List Nat) (hW : SW K ln Ls) (sz : Nat) (hp0 : Nat → Nat → Value) (ok0 : Ok K hp0) (qa900 : Nat) (zi901 : Int32) (kd900 : K qa900 = 6) (bd901 : ((3 : Int) ≤ zi901.toInt ∧ zi901.toInt ≤ 3)) : Met l yX5_cond (WS yX5_cond cX5_cond 5 (some .long)) { frames := 13, cells := 0, slots := 0, locals := 314 } (PB2 [.ref qa900, .int zi901] sz G cy ev (va_pl Ls (cellOf cy K ln hp0))) (QBl (S := (Nat → Nat → Value)) (fun (r : Int64) (u : (Nat → Nat → Value)) => Ok K u ∧ Fr [6002, 6003, 6004, 6005, 6006] K hp0 u) G (fun u => va_pl Ls (cellOf cy K ln u)) (va_A (va_pl Ls (cellOf cy K ln hp0)) sz)) 0 0 (va_A (va_pl Ls (cellOf cy K ln hp0)) sz) := by
  refine met_of2 (y := yX5_cond) (L := 5) (av := [.ref qa900, .int zi901]) (Qc := fun A => QBl (S := (Nat → Nat → Value)) (fun (r : Int64) (u : (Nat → Nat → Value)) => Ok K u ∧ Fr [6002, 6003, 6004, 6005, 6006] K hp0 u) G (fun u => va_pl Ls (cellOf cy K ln u)) A) (plainFor_of_name (by decide)) (Nat.le_of_ble_eq_true rfl) ?_
  intro p e s m below meth c hsz hx hb hr hml hown hT hlocks hin hK A hA hE hw hS ls hl
  have hw : PW G cy K ln Ls A hp0 s.heap := hw
  have hown : s.vm.findClass "LieClock$Parser" = some m.cls := hown
  have hl : lv_has ls 5 [(0, .ref qa900), (1, .int zi901)] := hl
  obtain ⟨Q, hQ⟩ : ∃ Q : State → Prop, Q = MQ below (QBl (S := (Nat → Nat → Value)) (fun (r : Int64) (u : (Nat → Nat → Value)) => Ok K u ∧ Fr [6002, 6003, 6004, 6005, 6006] K hp0 u) G (fun u => va_pl Ls (cellOf cy K ln u)) A) ([.ref qa900, .int zi901] : List Value).toArray s 0 0 A := ⟨_, rfl⟩
  rw [← hQ]
  refine lv_aload_n hx hb dX5_cond_0 rfl (lv_at hl 0 rfl) ?_
  refine lv_iload_n hx hb dX5_cond_1 rfl (lv_at hl 1 rfl) ?_
  refine kq_l hw hS hA (va_runV (As := [.int zi901]) (rest := []) ⟨hx, hb, hml, hown, hT⟩ (cX5_all_3 l G cy ev K ln Ls hW _ hp0 ok0 qa900 zi901 kd900 (b_wid2 bd901 (by decide) (by decide))) (cwV 1 hT (good_V tb_914 tb_911 tb_913 tb_16 tb_109) rfl rfl rfl (by decide +kernel) ⟨Nat.le_of_ble_eq_true rfl, Nat.le_of_ble_eq_true rfl⟩) (pool_preV (ci := 5) hK hE hS hA hw hW kd900 (by decide) rfl) rfl rfl hl.1 rfl (lv_room (Nat.le_of_ble_eq_true rfl)) dX5_cond_2 ⟨Nat.le_of_ble_eq_true rfl, Nat.le_of_ble_eq_true rfl⟩) (fun wl5 hp1 H locs hq4 hw hS => ?_)
  obtain ⟨ok2, F3⟩ := hq4
  have hw : PW G cy K ln Ls A hp1 H := hw
  refine lv_lstore_n (lv' := [(2, .long wl5), (0, .ref qa900), (1, .int zi901)]) hx hb dX5_cond_5 rfl hl (by decide) rfl (fun ls hl => ?_)
  refine lv_iconst (v := 0) hx hb dX5_cond_6 (by decide) ?_
  refine lv_istore (lv' := [(4, .int 0), (2, .long wl5), (0, .ref qa900), (1, .int zi901)]) hx hb dX5_cond_7 hl (by decide) rfl (fun ls hl => ?_)
  have jn229 : ∀ (hp226 : Nat → Nat → Value) (wl225 : Int64) (H : Heap) (locs : List Loc) (ls : Array Slot), Ok K hp226 → Fr [6002, 6003, 6004, 6005, 6006] K hp1 hp226 → lv_has ls 5 [(2, .long wl225)] → PW G cy K ln Ls A hp226 H → va_S A s.heap H locs → W p l e ({ frames := 13, cells := 0, slots := 0, locals := 314 } : Room) s m ([.ref qa900, .int zi901] : List Value).toArray below meth c H locs 0 0 Q (F0 m 40 ls []) := by
    intro hp226 wl225 H locs ls ok228 F227 hl hw hS
    refine lv_lload_n hx hb dX5_cond_40 rfl (lv_at hl 0 rfl) ?_
    rw [hQ]
    exact kz_l hx hb hr hlocks hS hp226 hw ⟨ok228, (Fr.tr (Fr.tr (Fr.rf) F3 (by decide)) F227 (by decide))⟩ (Nat.le_of_ble_eq_true rfl) (Nat.le_of_ble_eq_true rfl) dX5_cond_41
  have lp232 : ∀ (n230 : Nat) (hp163 : Nat → Nat → Value) (wl161 : Int64) (zi162 : Int32) (H : Heap) (locs : List Loc) (ls : Array Slot), 401 - zi162.toInt < (n230 : Int) → Ok K hp163 → Fr [6002, 6003, 6004, 6005, 6006] K hp1 hp163 → ((0 : Int) ≤ zi162.toInt ∧ zi162.toInt ≤ 401) → lv_has ls 5 [(0, .ref qa900), (1, .int zi901), (2, .long wl161), (4, .int zi162)] → PW G cy K ln Ls A hp163 H → va_S A s.heap H locs → W p l e ({ frames := 13, cells := 0, slots := 0, locals := 314 } : Room) s m ([.ref qa900, .int zi901] : List Value).toArray below meth c H locs 0 0 Q (F0 m 9 ls []) := by
    intro n230
    induction n230 with
    | zero =>
      intro hp163 wl161 zi162 H locs ls hm233 ok165 F164 bd166 hl hw hS
      exact absurd hm233 (by have := bd166; omega)
    | succ n230 ih231 =>
      intro hp163 wl161 zi162 H locs ls hm233 ok165 F164 bd166 hl hw hS
      refine lv_iload hx hb dX5_cond_9 (lv_at hl 3 rfl) ?_
      refine lv_sipush (v := 400) hx hb dX5_cond_11 (by decide) ?_
      refine lv_icmp_gt (tgt := 40) hx hb dX5_cond_14 (by decide) (fun cn234 => ?_) (fun cn234 => ?_)
      · skip
        have bd235 : (401 : Int) ≤ zi162.toInt ∧ zi162.toInt ≤ 401 := r_lt_y cn234 bc_400 bd166 (by decide) (by decide)
        exact jn229 hp163 wl161 _ _ ls ok165 (Fr.tr (Fr.rf) F164 (by decide)) (lv_sub hl [2] rfl) hw hS
      · skip
        have bd236 : (0 : Int) ≤ zi162.toInt ∧ zi162.toInt ≤ 400 := r_le_x (Int32.not_lt.mp cn234) bd166 bc_400 (by decide) (by decide)
        refine lv_aload_n hx hb dX5_cond_17 rfl (lv_at hl 0 rfl) ?_
        refine lv_bipush (v := 111) hx hb dX5_cond_18 (by decide) ?_
        refine kq_i hw hS hA (va_runV (As := [.int 111]) (rest := []) ⟨hx, hb, hml, hown, hT⟩ (cX5_accept_0 l G cy ev K ln Ls hW _ hp163 ok165 qa900 111 kd900) (cwV 1 hT (good_V tb_854 tb_851 tb_853 tb_8 tb_109) rfl rfl rfl (by decide +kernel) ⟨Nat.le_of_ble_eq_true rfl, Nat.le_of_ble_eq_true rfl⟩) (pool_preV (ci := 5) hK hE hS hA hw hW kd900 (by decide) rfl) rfl rfl hl.1 rfl (lv_room (Nat.le_of_ble_eq_true rfl)) dX5_cond_20 ⟨Nat.le_of_ble_eq_true rfl, Nat.le_of_ble_eq_true rfl⟩) (fun zi241 hp237 H locs hq240 hw hS => ?_)
        obtain ⟨ok238, F239, bd242, hc243, hc244⟩ := hq240
        have hw : PW G cy K ln Ls A hp237 H := hw
        rcases b01 bd242 with cn245 | cn245
        · skip
          subst cn245
          refine lv_if_eq (tgt := 40) hx hb dX5_cond_23 (by decide) (fun _ => ?_) (fun c => absurd (d_eq bc_0 bc_0) c)
          exact jn229 hp237 wl161 _ _ ls ok238 (Fr.tr (Fr.tr (Fr.rf) F164 (by decide)) F239 (by decide)) (lv_sub hl [2] rfl) hw hS
        · skip
          subst cn245
          obtain ⟨zi246, eq247, bd248⟩ := hc243 rfl
          obtain ⟨zi249, eq250, bd251⟩ := hc244 rfl
          refine lv_if_eq (tgt := 40) hx hb dX5_cond_23 (by decide) (fun c => absurd c (d_ne bc_1 bc_0 (by decide))) (fun _ => ?_)
          refine lv_lload_n hx hb dX5_cond_26 rfl (lv_at hl 2 rfl) ?_
          refine lv_aload_n hx hb dX5_cond_27 rfl (lv_at hl 0 rfl) ?_
          refine lv_iload_n hx hb dX5_cond_28 rfl (lv_at hl 1 rfl) ?_
          refine kq_l hw hS hA (va_runV (As := [.int zi901]) (rest := [.long wl161]) ⟨hx, hb, hml, hown, hT⟩ (cX5_all_3 l G cy ev K ln Ls hW _ hp237 ok238 qa900 zi901 kd900 (b_wid2 bd901 (by decide) (by decide))) (cwV 1 hT (good_V tb_914 tb_911 tb_913 tb_16 tb_109) rfl rfl rfl (by decide +kernel) ⟨Nat.le_of_ble_eq_true rfl, Nat.le_of_ble_eq_true rfl⟩) (pool_preV (ci := 5) hK hE hS hA hw hW kd900 (by decide) rfl) rfl rfl hl.1 rfl (lv_room (Nat.le_of_ble_eq_true rfl)) dX5_cond_29 ⟨Nat.le_of_ble_eq_true rfl, Nat.le_of_ble_eq_true rfl⟩) (fun wl256 hp252 H locs hq255 hw hS => ?_)
          obtain ⟨ok253, F254⟩ := hq255
          have hw : PW G cy K ln Ls A hp252 H := hw
          refine lv_lor hx hb dX5_cond_32 (lv_topl (fun wl257 _ => ?_))
          refine lv_lstore_n (lv' := [(2, .long wl257), (0, .ref qa900), (1, .int zi901), (4, .int zi162)]) hx hb dX5_cond_33 rfl hl (by decide) rfl (fun ls hl => ?_)
          obtain ⟨zi258, ea259⟩ : ∃ z : Int32, z = zi162 + 1 := ⟨_, rfl⟩
          have bd260 : (1 : Int) ≤ zi258.toInt ∧ zi258.toInt ≤ 401 := b_iadd ea259 bd236 bc_1 (by decide) (by decide) (by decide) (by decide)
          have qe261 : zi258.toInt = (zi162 : Int32).toInt + (1 : Int32).toInt := e_iadd ea259 bd236 bc_1 (by decide) (by decide)
          have qe262 : zi258.toInt = zi162.toInt + 1 := by have ha : (1 : Int32).toInt = 1 := (by decide); rw [ha] at qe261; exact qe261
          refine lv_iinc (v := zi258) (lv' := [(4, .int zi258), (2, .long wl257), (0, .ref qa900), (1, .int zi901)]) hx hb dX5_cond_34 hl (k := 3) rfl ea259.symm (by decide) rfl (fun ls hl => ?_)
          refine lv_goto (tgt := 9) hx hb dX5_cond_37 (by decide) ?_
          exact ih231 hp252 wl257 zi258 _ _ ls (by have := hm233; have := qe262; omega) ok253 (Fr.tr (Fr.tr (Fr.tr (Fr.rf) F164 (by decide)) F239 (by decide)) F254 (by decide)) (b_wid2 bd260 (by decide) (by decide)) (lv_sub hl [2, 3, 1, 0] rfl) hw hS
  exact lp232 _ hp1 wl5 0 _ _ ls (lp_in _) ok2 (Fr.rf) (b_wid2 bc_0 (by decide) (by decide)) (lv_sub hl [2, 3, 1, 0] rfl) hw hS

set_option maxRecDepth 100000 in
set_option maxHeartbeats 4000000 in
theorem cX5_literal_4 (l : Launch) (G : va_G) (cy : Nat → ClassId) (ev : Ew) (K ln : Nat → Nat) (Ls : List Nat) (hW : SW K ln Ls) (sz : Nat) (hp0 : Nat → Nat → Value) (ok0 : Ok K hp0) (qa900 : Nat) (zi901 : Int32) (kd900 : K qa900 = 6) (bd901 : ((2 : Int) ≤ zi901.toInt ∧ zi901.toInt ≤ 2)) : Met l yX5_literal (WS yX5_literal cX5_literal 6 (some .long)) { frames := 14, cells := 0, slots := 0, locals := 338 } (PB2 [.ref qa900, .int zi901] sz G cy ev (va_pl Ls (cellOf cy K ln hp0))) (QBl (S := (Nat → Nat → Value)) (fun (r : Int64) (u : (Nat → Nat → Value)) => Ok K u ∧ Fr [6002, 6003, 6004, 6005, 6006] K hp0 u) G (fun u => va_pl Ls (cellOf cy K ln u)) (va_A (va_pl Ls (cellOf cy K ln hp0)) sz)) 0 0 (va_A (va_pl Ls (cellOf cy K ln hp0)) sz) := by
  refine met_of2 (y := yX5_literal) (L := 6) (av := [.ref qa900, .int zi901]) (Qc := fun A => QBl (S := (Nat → Nat → Value)) (fun (r : Int64) (u : (Nat → Nat → Value)) => Ok K u ∧ Fr [6002, 6003, 6004, 6005, 6006] K hp0 u) G (fun u => va_pl Ls (cellOf cy K ln u)) A) (plainFor_of_name (by decide)) (Nat.le_of_ble_eq_true rfl) ?_
  intro p e s m below meth c hsz hx hb hr hml hown hT hlocks hin hK A hA hE hw hS ls hl
  have hw : PW G cy K ln Ls A hp0 s.heap := hw
  have hown : s.vm.findClass "LieClock$Parser" = some m.cls := hown
  have hl : lv_has ls 6 [(0, .ref qa900), (1, .int zi901)] := hl
  obtain ⟨Q, hQ⟩ : ∃ Q : State → Prop, Q = MQ below (QBl (S := (Nat → Nat → Value)) (fun (r : Int64) (u : (Nat → Nat → Value)) => Ok K u ∧ Fr [6002, 6003, 6004, 6005, 6006] K hp0 u) G (fun u => va_pl Ls (cellOf cy K ln u)) A) ([.ref qa900, .int zi901] : List Value).toArray s 0 0 A := ⟨_, rfl⟩
  rw [← hQ]
  refine lv_iconst (v := 0) hx hb dX5_literal_0 (by decide) ?_
  refine lv_istore_n (lv' := [(2, .int 0), (0, .ref qa900), (1, .int zi901)]) hx hb dX5_literal_1 rfl hl (by decide) rfl (fun ls hl => ?_)
  refine lv_iconst (v := 0) hx hb dX5_literal_2 (by decide) ?_
  refine lv_istore_n (lv' := [(3, .int 0), (2, .int 0), (0, .ref qa900), (1, .int zi901)]) hx hb dX5_literal_3 rfl hl (by decide) rfl (fun ls hl => ?_)
  have jn236 : ∀ (hp232 : Nat → Nat → Value) (zi231 : Int32) (H : Heap) (locs : List Loc) (ls : Array Slot), Ok K hp232 → Fr [6002, 6003, 6004] K hp0 hp232 → ((0 : Int) ≤ zi231.toInt ∧ zi231.toInt ≤ 1) → lv_has ls 6 [(0, .ref qa900), (1, .int zi901), (2, .int zi231)] → PW G cy K ln Ls A hp232 H → va_S A s.heap H locs → W p l e ({ frames := 14, cells := 0, slots := 0, locals := 338 } : Room) s m ([.ref qa900, .int zi901] : List Value).toArray below meth c H locs 0 0 Q (F0 m 36 ls []) := by
    intro hp232 zi231 H locs ls ok234 F233 bd235 hl hw hS
    refine lv_lconst (v := 0) hx hb dX5_literal_36 (by decide) ?_
    refine lv_lstore_n (lv' := [(3, .long 0), (0, .ref qa900), (1, .int zi901), (2, .int zi231)]) hx hb dX5_literal_37 rfl hl (by decide) rfl (fun ls hl => ?_)
    refine lv_aload_n hx hb dX5_literal_38 rfl (lv_at hl 1 rfl) ?_
    obtain ⟨zi238, eq237⟩ := rd_6003 ok234 kd900
    refine p_get (ci := 5) (v := .int zi238) (C := RX5) (T := TX5) (N := 7) hx hb hT iw_X5 hown hK hw hW kd900 (by decide) rfl rfl 3 (by decide) eq237 (hT _ tb_374) (fun _ h9 => h9) dX5_literal_39 ?_
    refine lv_bipush (v := 40) hx hb dX5_literal_42 (by decide) ?_
    have jn319 : ∀ (hp316 : Nat → Nat → Value) (wl315 : Int64) (H : Heap) (locs : List Loc) (ls : Array Slot), Ok K hp316 → Fr [6002, 6003, 6004, 6005, 6006] K hp232 hp316 → lv_has ls 6 [(2, .int zi231), (3, .long wl315)] → PW G cy K ln Ls A hp316 H → va_S A s.heap H locs → W p l e ({ frames := 14, cells := 0, slots := 0, locals := 338 } : Room) s m ([.ref qa900, .int zi901] : List Value).toArray below meth c H locs 0 0 Q (F0 m 113 ls []) := by
      intro hp316 wl315 H locs ls ok318 F317 hl hw hS
      refine lv_iload_n hx hb dX5_literal_113 rfl (lv_at hl 0 rfl) ?_
      refine lv_if_eq (tgt := 125) hx hb dX5_literal_114 (by decide) (fun cn320 => ?_) (fun cn320 => ?_)
      · skip
        have bd321 : (0 : Int) ≤ zi231.toInt ∧ zi231.toInt ≤ 0 := r_eq_x cn320 bd235 bc_0 (by decide) (by decide)
        refine lv_lload_n hx hb dX5_literal_125 rfl (lv_at hl 1 rfl) ?_
        rw [hQ]
        exact kz_l hx hb hr hlocks hS hp316 hw ⟨ok318, (Fr.tr (Fr.tr (Fr.rf) F233 (by decide)) F317 (by decide))⟩ (Nat.le_of_ble_eq_true rfl) (Nat.le_of_ble_eq_true rfl) dX5_literal_126
      · skip
        have bd322 : (1 : Int) ≤ zi231.toInt ∧ zi231.toInt ≤ 1 := r_ne_lo cn320 bd235 (toi bc_0) (by decide) (by decide)
        refine lv_lload_n hx hb dX5_literal_117 rfl (lv_at hl 1 rfl) ?_
        refine lv_ldc2 (v := (-1)) hx hb hown (hT _ tb_925) dX5_literal_118 ?_
        refine lv_lxor hx hb dX5_literal_121 (lv_topl (fun wl323 _ => ?_))
        refine lv_goto (tgt := 126) hx hb dX5_literal_122 (by decide) ?_
        rw [hQ]
        exact kz_l hx hb hr hlocks hS hp316 hw ⟨ok318, (Fr.tr (Fr.tr (Fr.rf) F233 (by decide)) F317 (by decide))⟩ (Nat.le_of_ble_eq_true rfl) (Nat.le_of_ble_eq_true rfl) dX5_literal_126
    refine lv_icmp_ne (tgt := 72) hx hb dX5_literal_44 (by decide) (fun cn239 => ?_) (fun cn239 => ?_)
    · skip
      refine lv_aload_n hx hb dX5_literal_72 rfl (lv_at hl 1 rfl) ?_
      obtain ⟨qa325, eq324, kd326⟩ := rd_6001 ok234 kd900
      refine p_get (ci := 5) (v := .ref qa325) (C := RX5) (T := TX5) (N := 7) hx hb hT iw_X5 hown hK hw hW kd900 (by decide) rfl rfl 1 (by decide) eq324 (hT _ tb_372) (fun _ h9 => h9) dX5_literal_73 ?_
      refine lv_aload_n hx hb dX5_literal_76 rfl (lv_at hl 1 rfl) ?_
      refine lv_iconst (v := 2) hx hb dX5_literal_77 (by decide) ?_
      refine kq_l hw hS hA (va_runV (As := [.int 2]) (rest := [.ref qa325]) ⟨hx, hb, hml, hown, hT⟩ (cX5_take_0 l G cy ev K ln Ls hW _ hp232 ok234 qa900 2 kd900) (cwV 1 hT (good_V tb_862 tb_859 tb_861 tb_10 tb_109) rfl rfl rfl (by decide +kernel) ⟨Nat.le_of_ble_eq_true rfl, Nat.le_of_ble_eq_true rfl⟩) (pool_preV (ci := 5) hK hE hS hA hw hW kd900 (by decide) rfl) rfl rfl hl.1 rfl (lv_room (Nat.le_of_ble_eq_true rfl)) dX5_literal_78 ⟨Nat.le_of_ble_eq_true rfl, Nat.le_of_ble_eq_true rfl⟩) (fun wl331 hp327 H locs hq330 hw hS => ?_)
      obtain ⟨ok328, F329⟩ := hq330
      have hw : PW G cy K ln Ls A hp327 H := hw
      refine kq_i hw hS hA (va_runV (As := [.long wl331]) (rest := []) ⟨hx, hb, hml, hown, hT⟩ (cX10_factNamed_0 l G cy ev K ln Ls hW _ hp327 ok328 qa325 wl331 kd326) (cwV 1 hT (good_V tb_870 tb_923 tb_868 tb_869 tb_107) rfl rfl rfl (by decide +kernel) ⟨Nat.le_of_ble_eq_true rfl, Nat.le_of_ble_eq_true rfl⟩) (pool_preV (ci := 10) hK hE hS hA hw hW kd326 (by decide) rfl) rfl rfl hl.1 rfl (lv_room (Nat.le_of_ble_eq_true rfl)) dX5_literal_81 ⟨Nat.le_of_ble_eq_true rfl, Nat.le_of_ble_eq_true rfl⟩) (fun zi336 hp332 H locs hq335 hw hS => ?_)
      obtain ⟨ok333, F334, bd337⟩ := hq335
      obtain rfl : hp327 = hp332 := (Fr.nil F334).symm
      have hw : PW G cy K ln Ls A hp327 H := hw
      refine lv_istore (lv' := [(5, .int zi336), (3, .long 0), (0, .ref qa900), (1, .int zi901), (2, .int zi231)]) hx hb dX5_literal_84 hl (by decide) rfl (fun ls hl => ?_)
      refine lv_iload hx hb dX5_literal_86 (lv_at hl 0 rfl) ?_
      refine lv_if_lt (tgt := 108) hx hb dX5_literal_88 (by decide) (fun cn338 => ?_) (fun cn338 => ?_)
      · skip
        have bd339 : (-1 : Int) ≤ zi336.toInt ∧ zi336.toInt ≤ -1 := r_lt_x cn338 bd337 bc_0 (by decide) (by decide)
        refine lv_aload_n hx hb dX5_literal_108 rfl (lv_at hl 2 rfl) ?_
        refine lv_iconst (v := 4) hx hb dX5_literal_109 (by decide) ?_
        refine kq_v hw hS hA (va_runV (As := [.int 4]) (rest := []) ⟨hx, hb, hml, hown, hT⟩ (cX5_failSoftly_0 l G cy ev K ln Ls hW _ hp327 ok328 qa900 4 kd900) (cwV 1 hT (good_V tb_881 tb_878 tb_880 tb_11 tb_109) rfl rfl rfl (by decide +kernel) ⟨Nat.le_of_ble_eq_true rfl, Nat.le_of_ble_eq_true rfl⟩) (pool_preV (ci := 5) hK hE hS hA hw hW kd900 (by decide) rfl) rfl rfl hl.1 rfl (lv_room (Nat.le_of_ble_eq_true rfl)) dX5_literal_110 ⟨Nat.le_of_ble_eq_true rfl, Nat.le_of_ble_eq_true rfl⟩) (fun hp340 H locs hq343 hw hS => ?_)
        obtain ⟨ok341, F342⟩ := hq343
        have hw : PW G cy K ln Ls A hp340 H := hw
        exact jn319 hp340 0 _ _ ls ok341 (Fr.tr (Fr.tr (Fr.rf) F329 (by decide)) F342 (by decide)) (lv_sub hl [4, 1] rfl) hw hS
      · skip
        have bd345 : (0 : Int) ≤ zi336.toInt ∧ zi336.toInt ≤ 5 := r_le_y (Int32.not_lt.mp cn338) bc_0 bd337 (by decide) (by decide)
        refine lv_iload hx hb dX5_literal_91 (lv_at hl 0 rfl) ?_
        refine lv_bipush (v := 6) hx hb dX5_literal_93 (by decide) ?_
        refine lv_icmp_ge (tgt := 108) hx hb dX5_literal_95 (by decide) (fun c => absurd c (d_nle bc_6 bd345 (by decide))) (fun _ => ?_)
        refine va_getsN hx hb hE.2.1 hS hown (hK.fl nw_820) (fun _ h9 => h9) dX5_literal_98 ?_
        refine lv_iload hx hb dX5_literal_101 (lv_at hl 0 rfl) ?_
        obtain ⟨wl346, _⟩ : ∃ w : Int64, w = ev.2.2 (zi336 : Int32).toNatClampNeg := ⟨_, rfl⟩
        refine va_tl (v := .long (ev.2.2 (zi336 : Int32).toNatClampNeg)) hx hb hE.2.2 hS (vp_b bd345 (by decide) (by decide)) rfl dX5_literal_103 (lv_topl (fun wl346x _ => ?_))
        refine lv_lstore_n (lv' := [(3, .long wl346x), (5, .int zi336), (0, .ref qa900), (1, .int zi901), (2, .int zi231)]) hx hb dX5_literal_104 rfl hl (by decide) rfl (fun ls hl => ?_)
        refine lv_goto (tgt := 113) hx hb dX5_literal_105 (by decide) ?_
        exact jn319 hp327 wl346x _ _ ls ok328 (Fr.tr (Fr.rf) F329 (by decide)) (lv_sub hl [4, 0] rfl) hw hS
    · skip
      have bd347 : (40 : Int) ≤ zi238.toInt ∧ zi238.toInt ≤ 40 := r_eq_x cn239 (b_all zi238) bc_40 (by decide) (by decide)
      refine lv_aload_n hx hb dX5_literal_47 rfl (lv_at hl 1 rfl) ?_
      refine lv_iload_n hx hb dX5_literal_48 rfl (lv_at hl 2 rfl) ?_
      refine kq_i hw hS hA (va_runV (As := [.int zi901]) (rest := []) ⟨hx, hb, hml, hown, hT⟩ (cX5_enter_2 l G cy ev K ln Ls hW _ hp232 ok234 qa900 zi901 kd900 (b_wid2 bd901 (by decide) (by decide))) (cwV 1 hT (good_V tb_922 tb_919 tb_921 tb_18 tb_109) rfl rfl rfl (by decide +kernel) ⟨Nat.le_of_ble_eq_true rfl, Nat.le_of_ble_eq_true rfl⟩) (pool_preV (ci := 5) hK hE hS hA hw hW kd900 (by decide) rfl) rfl rfl hl.1 rfl (lv_room (Nat.le_of_ble_eq_true rfl)) dX5_literal_49 ⟨Nat.le_of_ble_eq_true rfl, Nat.le_of_ble_eq_true rfl⟩) (fun zi352 hp348 H locs hq351 hw hS => ?_)
      obtain ⟨ok349, F350, bd353, hc354, hc355⟩ := hq351
      have hw : PW G cy K ln Ls A hp348 H := hw
      have jn377 : ∀ (hp374 : Nat → Nat → Value) (wl373 : Int64) (H : Heap) (locs : List Loc) (ls : Array Slot), Ok K hp374 → Fr [6002, 6003, 6004, 6005, 6006] K hp348 hp374 → lv_has ls 6 [(0, .ref qa900), (2, .int zi231), (3, .long wl373)] → PW G cy K ln Ls A hp374 H → va_S A s.heap H locs → W p l e ({ frames := 14, cells := 0, slots := 0, locals := 338 } : Room) s m ([.ref qa900, .int zi901] : List Value).toArray below meth c H locs 0 0 Q (F0 m 63 ls []) := by
        intro hp374 wl373 H locs ls ok376 F375 hl hw hS
        refine lv_aload_n hx hb dX5_literal_63 rfl (lv_at hl 0 rfl) ?_
        refine lv_bipush (v := 41) hx hb dX5_literal_64 (by decide) ?_
        refine kq_v hw hS hA (va_runV (As := [.int 41]) (rest := []) ⟨hx, hb, hml, hown, hT⟩ (cX5_expect_0 l G cy ev K ln Ls hW _ hp374 ok376 qa900 41 kd900) (cwV 1 hT (good_V tb_889 tb_886 tb_888 tb_12 tb_109) rfl rfl rfl (by decide +kernel) ⟨Nat.le_of_ble_eq_true rfl, Nat.le_of_ble_eq_true rfl⟩) (pool_preV (ci := 5) hK hE hS hA hw hW kd900 (by decide) rfl) rfl rfl hl.1 rfl (lv_room (Nat.le_of_ble_eq_true rfl)) dX5_literal_66 ⟨Nat.le_of_ble_eq_true rfl, Nat.le_of_ble_eq_true rfl⟩) (fun hp378 H locs hq381 hw hS => ?_)
        obtain ⟨ok379, F380⟩ := hq381
        have hw : PW G cy K ln Ls A hp378 H := hw
        refine lv_goto (tgt := 113) hx hb dX5_literal_69 (by decide) ?_
        exact jn319 hp378 wl373 _ _ ls ok379 (Fr.tr (Fr.tr (Fr.tr (Fr.rf) F350 (by decide)) F375 (by decide)) F380 (by decide)) (lv_sub hl [1, 2] rfl) hw hS
      rcases b01 bd353 with cn356 | cn356
      · skip
        subst cn356
        refine lv_if_eq (tgt := 63) hx hb dX5_literal_52 (by decide) (fun _ => ?_) (fun c => absurd (d_eq bc_0 bc_0) c)
        exact jn377 hp348 0 _ _ ls ok349 (Fr.rf) (lv_sub hl [1, 3, 0] rfl) hw hS
      · skip
        subst cn356
        obtain ⟨zi383, eq384, bd385⟩ := hc354 rfl
        obtain ⟨zi386, eq387, bd388⟩ := hc355 rfl
        refine lv_if_eq (tgt := 63) hx hb dX5_literal_52 (by decide) (fun c => absurd c (d_ne bc_1 bc_0 (by decide))) (fun _ => ?_)
        refine lv_aload_n hx hb dX5_literal_55 rfl (lv_at hl 1 rfl) ?_
        refine lv_iload_n hx hb dX5_literal_56 rfl (lv_at hl 2 rfl) ?_
        refine lv_iconst (v := 1) hx hb dX5_literal_57 (by decide) ?_
        refine lv_iadd hx hb dX5_literal_58 (lv_topi (fun zi389 ea390 => ?_))
        have bd391 : (3 : Int) ≤ zi389.toInt ∧ zi389.toInt ≤ 3 := b_iadd ea390 bd901 bc_1 (by decide) (by decide) (by decide) (by decide)
        have qe392 : zi389.toInt = (zi901 : Int32).toInt + (1 : Int32).toInt := e_iadd ea390 bd901 bc_1 (by decide) (by decide)
        have qe393 : zi389.toInt = zi901.toInt + 1 := by have ha : (1 : Int32).toInt = 1 := (by decide); rw [ha] at qe392; exact qe392
        refine kq_l hw hS hA (va_runV (As := [.int zi389]) (rest := []) ⟨hx, hb, hml, hown, hT⟩ (cX5_cond_3 l G cy ev K ln Ls hW _ hp348 ok349 qa900 zi389 kd900 (b_wid2 bd391 (by decide) (by decide))) (cwV 1 hT (good_V tb_910 tb_907 tb_909 tb_15 tb_109) rfl rfl rfl (by decide +kernel) ⟨Nat.le_of_ble_eq_true rfl, Nat.le_of_ble_eq_true rfl⟩) (pool_preV (ci := 5) hK hE hS hA hw hW kd900 (by decide) rfl) rfl rfl hl.1 rfl (lv_room (Nat.le_of_ble_eq_true rfl)) dX5_literal_59 ⟨Nat.le_of_ble_eq_true rfl, Nat.le_of_ble_eq_true rfl⟩) (fun wl398 hp394 H locs hq397 hw hS => ?_)
        obtain ⟨ok395, F396⟩ := hq397
        have hw : PW G cy K ln Ls A hp394 H := hw
        refine lv_lstore_n (lv' := [(3, .long wl398), (0, .ref qa900), (1, .int zi901), (2, .int zi231)]) hx hb dX5_literal_62 rfl hl (by decide) rfl (fun ls hl => ?_)
        exact jn377 hp394 wl398 _ _ ls ok395 (Fr.tr (Fr.rf) F396 (by decide)) (lv_sub hl [1, 3, 0] rfl) hw hS
  have lp401 : ∀ (n399 : Nat) (hp164 : Nat → Nat → Value) (zi162 : Int32) (zi163 : Int32) (H : Heap) (locs : List Loc) (ls : Array Slot), 401 - zi163.toInt < (n399 : Int) → Ok K hp164 → Fr [6002, 6003, 6004] K hp0 hp164 → ((0 : Int) ≤ zi162.toInt ∧ zi162.toInt ≤ 1) → ((0 : Int) ≤ zi163.toInt ∧ zi163.toInt ≤ 401) → lv_has ls 6 [(0, .ref qa900), (1, .int zi901), (2, .int zi162), (3, .int zi163)] → PW G cy K ln Ls A hp164 H → va_S A s.heap H locs → W p l e ({ frames := 14, cells := 0, slots := 0, locals := 338 } : Room) s m ([.ref qa900, .int zi901] : List Value).toArray below meth c H locs 0 0 Q (F0 m 4 ls []) := by
    intro n399
    induction n399 with
    | zero =>
      intro hp164 zi162 zi163 H locs ls hm402 ok166 F165 bd167 bd168 hl hw hS
      exact absurd hm402 (by have := bd168; omega)
    | succ n399 ih400 =>
      intro hp164 zi162 zi163 H locs ls hm402 ok166 F165 bd167 bd168 hl hw hS
      refine lv_iload_n hx hb dX5_literal_4 rfl (lv_at hl 3 rfl) ?_
      refine lv_sipush (v := 400) hx hb dX5_literal_5 (by decide) ?_
      refine lv_icmp_gt (tgt := 36) hx hb dX5_literal_8 (by decide) (fun cn403 => ?_) (fun cn403 => ?_)
      · skip
        have bd404 : (401 : Int) ≤ zi163.toInt ∧ zi163.toInt ≤ 401 := r_lt_y cn403 bc_400 bd168 (by decide) (by decide)
        exact jn236 hp164 zi162 _ _ ls ok166 (Fr.tr (Fr.rf) F165 (by decide)) (b_wid2 bd167 (by decide) (by decide)) (lv_sub hl [0, 1, 2] rfl) hw hS
      · skip
        have bd405 : (0 : Int) ≤ zi163.toInt ∧ zi163.toInt ≤ 400 := r_le_x (Int32.not_lt.mp cn403) bd168 bc_400 (by decide) (by decide)
        refine lv_aload_n hx hb dX5_literal_11 rfl (lv_at hl 0 rfl) ?_
        refine lv_bipush (v := 113) hx hb dX5_literal_12 (by decide) ?_
        refine kq_i hw hS hA (va_runV (As := [.int 113]) (rest := []) ⟨hx, hb, hml, hown, hT⟩ (cX5_accept_0 l G cy ev K ln Ls hW _ hp164 ok166 qa900 113 kd900) (cwV 1 hT (good_V tb_854 tb_851 tb_853 tb_8 tb_109) rfl rfl rfl (by decide +kernel) ⟨Nat.le_of_ble_eq_true rfl, Nat.le_of_ble_eq_true rfl⟩) (pool_preV (ci := 5) hK hE hS hA hw hW kd900 (by decide) rfl) rfl rfl hl.1 rfl (lv_room (Nat.le_of_ble_eq_true rfl)) dX5_literal_14 ⟨Nat.le_of_ble_eq_true rfl, Nat.le_of_ble_eq_true rfl⟩) (fun zi410 hp406 H locs hq409 hw hS => ?_)
        obtain ⟨ok407, F408, bd411, hc412, hc413⟩ := hq409
        have hw : PW G cy K ln Ls A hp406 H := hw
        rcases b01 bd411 with cn414 | cn414
        · skip
          subst cn414
          refine lv_if_eq (tgt := 36) hx hb dX5_literal_17 (by decide) (fun _ => ?_) (fun c => absurd (d_eq bc_0 bc_0) c)
          exact jn236 hp406 zi162 _ _ ls ok407 (Fr.tr (Fr.tr (Fr.rf) F165 (by decide)) F408 (by decide)) (b_wid2 bd167 (by decide) (by decide)) (lv_sub hl [0, 1, 2] rfl) hw hS
        · skip
          subst cn414
          obtain ⟨zi415, eq416, bd417⟩ := hc412 rfl
          obtain ⟨zi418, eq419, bd420⟩ := hc413 rfl
          refine lv_if_eq (tgt := 36) hx hb dX5_literal_17 (by decide) (fun c => absurd c (d_ne bc_1 bc_0 (by decide))) (fun _ => ?_)
          refine lv_iload_n hx hb dX5_literal_20 rfl (lv_at hl 2 rfl) ?_
          have jn426 : ∀ (zi424 : Int32) (H : Heap) (locs : List Loc) (ls : Array Slot), ((0 : Int) ≤ zi424.toInt ∧ zi424.toInt ≤ 1) → lv_has ls 6 [(0, .ref qa900), (1, .int zi901), (3, .int zi163)] → PW G cy K ln Ls A hp406 H → va_S A s.heap H locs → W p l e ({ frames := 14, cells := 0, slots := 0, locals := 338 } : Room) s m ([.ref qa900, .int zi901] : List Value).toArray below meth c H locs 0 0 Q (F0 m 29 ls [.int zi424]) := by
            intro zi424 H locs ls bd425 hl hw hS
            refine lv_istore_n (lv' := [(2, .int zi424), (0, .ref qa900), (1, .int zi901), (3, .int zi163)]) hx hb dX5_literal_29 rfl hl (by decide) rfl (fun ls hl => ?_)
            obtain ⟨zi427, ea428⟩ : ∃ z : Int32, z = zi163 + 1 := ⟨_, rfl⟩
            have bd429 : (1 : Int) ≤ zi427.toInt ∧ zi427.toInt ≤ 401 := b_iadd ea428 bd405 bc_1 (by decide) (by decide) (by decide) (by decide)
            have qe430 : zi427.toInt = (zi163 : Int32).toInt + (1 : Int32).toInt := e_iadd ea428 bd405 bc_1 (by decide) (by decide)
            have qe431 : zi427.toInt = zi163.toInt + 1 := by have ha : (1 : Int32).toInt = 1 := (by decide); rw [ha] at qe430; exact qe430
            refine lv_iinc (v := zi427) (lv' := [(3, .int zi427), (2, .int zi424), (0, .ref qa900), (1, .int zi901)]) hx hb dX5_literal_30 hl (k := 3) rfl ea428.symm (by decide) rfl (fun ls hl => ?_)
            refine lv_goto (tgt := 4) hx hb dX5_literal_33 (by decide) ?_
            exact ih400 hp406 zi424 zi427 _ _ ls (by have := hm402; have := qe431; omega) ok407 (Fr.tr (Fr.tr (Fr.rf) F165 (by decide)) F408 (by decide)) (b_wid2 bd425 (by decide) (by decide)) (b_wid2 bd429 (by decide) (by decide)) (lv_sub hl [2, 3, 1, 0] rfl) hw hS
          refine lv_if_ne (tgt := 28) hx hb dX5_literal_21 (by decide) (fun cn421 => ?_) (fun cn421 => ?_)
          · skip
            have bd432 : (1 : Int) ≤ zi162.toInt ∧ zi162.toInt ≤ 1 := r_ne_lo cn421 bd167 (toi bc_0) (by decide) (by decide)
            refine lv_iconst (v := 0) hx hb dX5_literal_28 (by decide) ?_
            exact jn426 0 _ _ ls (b_wid2 bc_0 (by decide) (by decide)) (lv_sub hl [0, 1, 3] rfl) hw hS
          · skip
            have bd433 : (0 : Int) ≤ zi162.toInt ∧ zi162.toInt ≤ 0 := r_eq_x cn421 bd167 bc_0 (by decide) (by decide)
            refine lv_iconst (v := 1) hx hb dX5_literal_24 (by decide) ?_
            refine lv_goto (tgt := 29) hx hb dX5_literal_25 (by decide) ?_
            exact jn426 1 _ _ ls (b_wid2 bc_1 (by decide) (by decide)) (lv_sub hl [0, 1, 3] rfl) hw hS
  exact lp401 _ hp0 0 0 _ _ ls (lp_in _) ok0 (Fr.rf) (b_wid2 bc_0 (by decide) (by decide)) (b_wid2 bc_0 (by decide) (by decide)) (lv_sub hl [2, 3, 1, 0] rfl) hw hS
