set_option maxRecDepth 100000 in
set_option maxHeartbeats 4000000 in
theorem cX8_init_0 (l : Launch) (G : va_G) (cy : Nat → ClassId) (ev : Ev) (sz : Nat) (h0 : Nat)  : Met l yX8_init (WS yX8_init cX8_init 1 none) { frames := 1, cells := 1, slots := 2000, locals := 20 } (PB [.ref h0] sz G cy ev [(h0, .inr (8, [.null, .int 0]))]) (QBv (S := Nat) (fun _ : Nat => True) G (fun u => [(h0, .inr (8, [.ref u, .int 0])), (u, .inl (cy 0, 2000, .inl (fun _ => 0)))]) (va_A [(h0, .inr (8, [.null, .int 0]))] sz)) 1 2000 (va_A [(h0, .inr (8, [.null, .int 0]))] sz) := by
  refine met_of (y := yX8_init) (L := 1) (av := [.ref h0]) (Qc := fun A => QBv (S := Nat) (fun _ : Nat => True) G (fun u => [(h0, .inr (8, [.ref u, .int 0])), (u, .inl (cy 0, 2000, .inl (fun _ => 0)))]) A) (by decide) (Nat.le_of_ble_eq_true rfl) ?_
  intro p e s m below meth c hx hb hr hml hown hT hlocks hin hK A hA hE hP hD hS ls hl
  have hown : s.vm.findClass "LieClock$Tape" = some m.cls := hown
  have hl : lv_has ls 1 [(0, .ref h0)] := hl
  refine lv_aload_n hx hb dX8_init_0 rfl (lv_at hl 0 rfl) ?_
  refine W.objInit hx hb hown (hT _ tb_141) (hT _ tb_134) (hT _ tb_135) rfl (by rw [hml]; exact hl.1) rfl dX8_init_1 (Nat.le_of_ble_eq_true rfl) (Nat.le_of_ble_eq_true rfl) ?_
  refine W.eq (g2 := F0 m 4 ls []) rfl ?_
  refine lv_aload_n hx hb dX8_init_4 rfl (lv_at hl 0 rfl) ?_
  refine lv_sipush (v := 2000) hx hb dX8_init_5 (by decide) ?_
  refine kn_a (atype := .byte) (ty := .byte) (N' := 2000) (a0 := (2000, .inl (fun _ => 0))) hx hb (hT _ tb_151) rfl hK hP hD hS hA 0 rfl (fun _ => rfl) (by decide) (by decide) (by decide) (Nat.le_of_ble_eq_true rfl) (Nat.le_of_ble_eq_true rfl) dX8_init_8 (fun q3 H hP hD hS => ?_)
  obtain ⟨hP, hD⟩ : PD G A [(h0, .inr (8, [.null, .int 0])), (q3, .inl (cy 0, 2000, .inl (fun _ => 0)))] H := ⟨hP, hD⟩
  refine W.widen (k := 1) (n := 2000) (Nat.le_of_ble_eq_true rfl) (Nat.le_of_ble_eq_true rfl) ?_
  refine va_putF (D := G) (ci := 8) (v := .ref q3) (ty := .array .byte) (C := RX8) (T := TX8) (N := 2) hx hb hT iw_X8 tyX8 tyX8_ok nmX8 hown hK.1 hP hD hS 0 rfl rfl 0 (by decide) (hT _ tb_142) (fun _ h9 => h9) rfl hin rfl (by decide +kernel) rfl rfl (Nat.le_of_ble_eq_true rfl) dX8_init_10 (fun H locs hP hD hS => ?_)
  obtain ⟨hP, hD⟩ : PD G A [(h0, .inr (8, [.ref q3, .int 0])), (q3, .inl (cy 0, 2000, .inl (fun _ => 0)))] H := ⟨hP, hD⟩
  exact kr_v hx hb hr hlocks hP hD hS (u := (q3 : Nat)) trivial [0, 1] rfl (by decide) (Nat.le_of_ble_eq_true rfl) (Nat.le_of_ble_eq_true rfl) dX8_init_13

set_option maxRecDepth 100000 in
set_option maxHeartbeats 4000000 in
theorem cX2_init_0 (l : Launch) (G : va_G) (cy : Nat → ClassId) (ev : Ev) (sz : Nat) (h0 : Nat)  : Met l yX2_init (WS yX2_init cX2_init 1 none) { frames := 1, cells := 2, slots := 432, locals := 20 } (PB [.ref h0] sz G cy ev [(h0, .inr (2, [.null, .null, .int 0, .int 0, .int 0]))]) (QBv (S := Nat × Nat) (fun _ : Nat × Nat => True) G (fun u => [(h0, .inr (2, [.ref u.1, .ref u.2, .int 0, .int 0, .int 0])), (u.1, .inl (cy 1, 400, .inl (fun _ => 0)))]) (va_A [(h0, .inr (2, [.null, .null, .int 0, .int 0, .int 0]))] sz)) 2 432 (va_A [(h0, .inr (2, [.null, .null, .int 0, .int 0, .int 0]))] sz) := by
  refine met_of (y := yX2_init) (L := 1) (av := [.ref h0]) (Qc := fun A => QBv (S := Nat × Nat) (fun _ : Nat × Nat => True) G (fun u => [(h0, .inr (2, [.ref u.1, .ref u.2, .int 0, .int 0, .int 0])), (u.1, .inl (cy 1, 400, .inl (fun _ => 0)))]) A) (by decide) (Nat.le_of_ble_eq_true rfl) ?_
  intro p e s m below meth c hx hb hr hml hown hT hlocks hin hK A hA hE hP hD hS ls hl
  have hown : s.vm.findClass "LieClock$Law" = some m.cls := hown
  have hl : lv_has ls 1 [(0, .ref h0)] := hl
  refine lv_aload_n hx hb dX2_init_0 rfl (lv_at hl 0 rfl) ?_
  refine W.objInit hx hb hown (hT _ tb_163) (hT _ tb_134) (hT _ tb_135) rfl (by rw [hml]; exact hl.1) rfl dX2_init_1 (Nat.le_of_ble_eq_true rfl) (Nat.le_of_ble_eq_true rfl) ?_
  refine W.eq (g2 := F0 m 4 ls []) rfl ?_
  refine lv_aload_n hx hb dX2_init_4 rfl (lv_at hl 0 rfl) ?_
  refine lv_sipush (v := 400) hx hb dX2_init_5 (by decide) ?_
  refine kn_a (atype := .int) (ty := .int) (N' := 400) (a0 := (400, .inl (fun _ => 0))) hx hb (hT _ tb_182) rfl hK hP hD hS hA 1 rfl (fun _ => rfl) (by decide) (by decide) (by decide) (Nat.le_of_ble_eq_true rfl) (Nat.le_of_ble_eq_true rfl) dX2_init_8 (fun q8 H hP hD hS => ?_)
  obtain ⟨hP, hD⟩ : PD G A [(h0, .inr (2, [.null, .null, .int 0, .int 0, .int 0])), (q8, .inl (cy 1, 400, .inl (fun _ => 0)))] H := ⟨hP, hD⟩
  refine W.widen (k := 1) (n := 400) (Nat.le_of_ble_eq_true rfl) (Nat.le_of_ble_eq_true rfl) ?_
  refine va_putF (D := G) (ci := 2) (v := .ref q8) (ty := .array .int) (C := RX2) (T := TX2) (N := 5) hx hb hT iw_X2 tyX2 tyX2_ok nmX2 hown hK.1 hP hD hS 0 rfl rfl 0 (by decide) (hT _ tb_164) (fun _ h9 => h9) rfl hin rfl (by decide +kernel) rfl rfl (Nat.le_of_ble_eq_true rfl) dX2_init_10 (fun H locs hP hD hS => ?_)
  obtain ⟨hP, hD⟩ : PD G A [(h0, .inr (2, [.ref q8, .null, .int 0, .int 0, .int 0])), (q8, .inl (cy 1, 400, .inl (fun _ => 0)))] H := ⟨hP, hD⟩
  refine lv_aload_n hx hb dX2_init_13 rfl (lv_at hl 0 rfl) ?_
  refine lv_bipush (v := 32) hx hb dX2_init_14 (by decide) ?_
  refine kn_a (atype := .int) (ty := .int) (N' := 32) (a0 := (32, .inl (fun _ => 0))) hx hb (hT _ tb_182) rfl hK hP hD hS hA 1 rfl (fun _ => rfl) (by decide) (by decide) (by decide) (Nat.le_of_ble_eq_true rfl) (Nat.le_of_ble_eq_true rfl) dX2_init_16 (fun q9 H hP hD hS => ?_)
  obtain ⟨hP, hD⟩ : PD G A [(h0, .inr (2, [.ref q8, .null, .int 0, .int 0, .int 0])), (q8, .inl (cy 1, 400, .inl (fun _ => 0))), (q9, .inl (cy 1, 32, .inl (fun _ => 0)))] H := ⟨hP, hD⟩
  refine W.widen (k := 2) (n := 432) (Nat.le_of_ble_eq_true rfl) (Nat.le_of_ble_eq_true rfl) ?_
  refine va_putF (D := G) (ci := 2) (v := .ref q9) (ty := .array .int) (C := RX2) (T := TX2) (N := 5) hx hb hT iw_X2 tyX2 tyX2_ok nmX2 hown hK.1 hP hD hS 0 rfl rfl 1 (by decide) (hT _ tb_165) (fun _ h9 => h9) rfl hin rfl (by decide +kernel) rfl rfl (Nat.le_of_ble_eq_true rfl) dX2_init_18 (fun H locs hP hD hS => ?_)
  obtain ⟨hP, hD⟩ : PD G A [(h0, .inr (2, [.ref q8, .ref q9, .int 0, .int 0, .int 0])), (q8, .inl (cy 1, 400, .inl (fun _ => 0)))] H := ⟨hP.sub [0, 1] rfl, hD.sub [0, 1] (by decide) rfl⟩
  exact kr_v hx hb hr hlocks hP hD hS (u := ((q8, q9) : Nat × Nat)) trivial [0, 1] rfl (by decide) (Nat.le_of_ble_eq_true rfl) (Nat.le_of_ble_eq_true rfl) dX2_init_21

set_option maxRecDepth 100000 in
set_option maxHeartbeats 4000000 in
theorem cX10_init_0 (l : Launch) (G : va_G) (cy : Nat → ClassId) (ev : Ev) (sz : Nat) (h0 : Nat)  : Met l yX10_init (WS yX10_init cX10_init 1 none) { frames := 2, cells := 14, slots := 948, locals := 40 } (PB [.ref h0] sz G cy ev [(h0, .inr (10, [.int 0, .int 0, .int 0, .int 0, .int 0, .int 0, .int 0, .int 0, .int 0, .long 0, .null, .null, .null, .null, .null, .null, .null, .null, .null, .null]))]) (QBv (S := (Nat → Nat)) (fun _ : (Nat → Nat) => True) G (fun u => [(h0, .inr (10, [.int 0, .int 0, .int 0, .int 0, .int 0, .int 0, .int 0, .int 0, .int 0, .long 0, .ref (u 4), .ref (u 5), .ref (u 6), .ref (u 7), .ref (u 8), .ref (u 9), .ref (u 10), .ref (u 11), .ref (u 0), .ref (u 1)])), ((u 0), .inr (2, [.ref (u 2), .ref (u 12), .int 0, .int 0, .int 0])), ((u 1), .inr (2, [.ref (u 3), .ref (u 13), .int 0, .int 0, .int 0])), ((u 2), .inl (cy 1, 400, .inl (fun _ => 0))), ((u 3), .inl (cy 1, 400, .inl (fun _ => 0)))]) (va_A [(h0, .inr (10, [.int 0, .int 0, .int 0, .int 0, .int 0, .int 0, .int 0, .int 0, .int 0, .long 0, .null, .null, .null, .null, .null, .null, .null, .null, .null, .null]))] sz)) 14 948 (va_A [(h0, .inr (10, [.int 0, .int 0, .int 0, .int 0, .int 0, .int 0, .int 0, .int 0, .int 0, .long 0, .null, .null, .null, .null, .null, .null, .null, .null, .null, .null]))] sz) := by
  refine met_of (y := yX10_init) (L := 1) (av := [.ref h0]) (Qc := fun A => QBv (S := (Nat → Nat)) (fun _ : (Nat → Nat) => True) G (fun u => [(h0, .inr (10, [.int 0, .int 0, .int 0, .int 0, .int 0, .int 0, .int 0, .int 0, .int 0, .long 0, .ref (u 4), .ref (u 5), .ref (u 6), .ref (u 7), .ref (u 8), .ref (u 9), .ref (u 10), .ref (u 11), .ref (u 0), .ref (u 1)])), ((u 0), .inr (2, [.ref (u 2), .ref (u 12), .int 0, .int 0, .int 0])), ((u 1), .inr (2, [.ref (u 3), .ref (u 13), .int 0, .int 0, .int 0])), ((u 2), .inl (cy 1, 400, .inl (fun _ => 0))), ((u 3), .inl (cy 1, 400, .inl (fun _ => 0)))]) A) (by decide) (Nat.le_of_ble_eq_true rfl) ?_
  intro p e s m below meth c hx hb hr hml hown hT hlocks hin hK A hA hE hP hD hS ls hl
  have hown : s.vm.findClass "LieClock$Told" = some m.cls := hown
  have hl : lv_has ls 1 [(0, .ref h0)] := hl
  refine lv_aload_n hx hb dX10_init_0 rfl (lv_at hl 0 rfl) ?_
  refine W.objInit hx hb hown (hT _ tb_157) (hT _ tb_134) (hT _ tb_135) rfl (by rw [hml]; exact hl.1) rfl dX10_init_1 (Nat.le_of_ble_eq_true rfl) (Nat.le_of_ble_eq_true rfl) ?_
  refine W.eq (g2 := F0 m 4 ls []) rfl ?_
  refine lv_aload_n hx hb dX10_init_4 rfl (lv_at hl 0 rfl) ?_
  refine lv_bipush (v := 6) hx hb dX10_init_5 (by decide) ?_
  refine kn_a (atype := .long) (ty := .long) (N' := 6) (a0 := (6, .inr (.inl (fun _ => 0)))) hx hb (hT _ tb_181) rfl hK hP hD hS hA 2 rfl (fun _ => rfl) (by decide) (by decide) (by decide) (Nat.le_of_ble_eq_true rfl) (Nat.le_of_ble_eq_true rfl) dX10_init_7 (fun q46 H hP hD hS => ?_)
  obtain ⟨hP, hD⟩ : PD G A [(h0, .inr (10, [.int 0, .int 0, .int 0, .int 0, .int 0, .int 0, .int 0, .int 0, .int 0, .long 0, .null, .null, .null, .null, .null, .null, .null, .null, .null, .null])), (q46, .inl (cy 2, 6, .inr (.inl (fun _ => 0))))] H := ⟨hP, hD⟩
  refine W.widen (k := 1) (n := 6) (Nat.le_of_ble_eq_true rfl) (Nat.le_of_ble_eq_true rfl) ?_
  refine va_putF (D := G) (ci := 10) (v := .ref q46) (ty := .array .long) (C := RX10) (T := TX10) (N := 20) hx hb hT iw_X10 tyX10 tyX10_ok nmX10 hown hK.1 hP hD hS 0 rfl rfl 10 (by decide) (hT _ tb_222) (fun _ h9 => h9) rfl hin rfl (by decide +kernel) rfl rfl (Nat.le_of_ble_eq_true rfl) dX10_init_9 (fun H locs hP hD hS => ?_)
  obtain ⟨hP, hD⟩ : PD G A [(h0, .inr (10, [.int 0, .int 0, .int 0, .int 0, .int 0, .int 0, .int 0, .int 0, .int 0, .long 0, .ref q46, .null, .null, .null, .null, .null, .null, .null, .null, .null]))] H := ⟨hP.sub [0] rfl, hD.sub [0] (by decide) rfl⟩
  refine lv_aload_n hx hb dX10_init_12 rfl (lv_at hl 0 rfl) ?_
  refine lv_bipush (v := 6) hx hb dX10_init_13 (by decide) ?_
  refine kn_a (atype := .long) (ty := .long) (N' := 6) (a0 := (6, .inr (.inl (fun _ => 0)))) hx hb (hT _ tb_181) rfl hK hP hD hS hA 2 rfl (fun _ => rfl) (by decide) (by decide) (by decide) (Nat.le_of_ble_eq_true rfl) (Nat.le_of_ble_eq_true rfl) dX10_init_15 (fun q47 H hP hD hS => ?_)
  obtain ⟨hP, hD⟩ : PD G A [(h0, .inr (10, [.int 0, .int 0, .int 0, .int 0, .int 0, .int 0, .int 0, .int 0, .int 0, .long 0, .ref q46, .null, .null, .null, .null, .null, .null, .null, .null, .null])), (q47, .inl (cy 2, 6, .inr (.inl (fun _ => 0))))] H := ⟨hP, hD⟩
  refine W.widen (k := 2) (n := 12) (Nat.le_of_ble_eq_true rfl) (Nat.le_of_ble_eq_true rfl) ?_
  refine va_putF (D := G) (ci := 10) (v := .ref q47) (ty := .array .long) (C := RX10) (T := TX10) (N := 20) hx hb hT iw_X10 tyX10 tyX10_ok nmX10 hown hK.1 hP hD hS 0 rfl rfl 11 (by decide) (hT _ tb_223) (fun _ h9 => h9) rfl hin rfl (by decide +kernel) rfl rfl (Nat.le_of_ble_eq_true rfl) dX10_init_17 (fun H locs hP hD hS => ?_)
  obtain ⟨hP, hD⟩ : PD G A [(h0, .inr (10, [.int 0, .int 0, .int 0, .int 0, .int 0, .int 0, .int 0, .int 0, .int 0, .long 0, .ref q46, .ref q47, .null, .null, .null, .null, .null, .null, .null, .null]))] H := ⟨hP.sub [0] rfl, hD.sub [0] (by decide) rfl⟩
  refine lv_aload_n hx hb dX10_init_20 rfl (lv_at hl 0 rfl) ?_
  refine lv_bipush (v := 6) hx hb dX10_init_21 (by decide) ?_
  refine kn_a (atype := .int) (ty := .int) (N' := 6) (a0 := (6, .inl (fun _ => 0))) hx hb (hT _ tb_182) rfl hK hP hD hS hA 1 rfl (fun _ => rfl) (by decide) (by decide) (by decide) (Nat.le_of_ble_eq_true rfl) (Nat.le_of_ble_eq_true rfl) dX10_init_23 (fun q48 H hP hD hS => ?_)
  obtain ⟨hP, hD⟩ : PD G A [(h0, .inr (10, [.int 0, .int 0, .int 0, .int 0, .int 0, .int 0, .int 0, .int 0, .int 0, .long 0, .ref q46, .ref q47, .null, .null, .null, .null, .null, .null, .null, .null])), (q48, .inl (cy 1, 6, .inl (fun _ => 0)))] H := ⟨hP, hD⟩
  refine W.widen (k := 3) (n := 18) (Nat.le_of_ble_eq_true rfl) (Nat.le_of_ble_eq_true rfl) ?_
  refine va_putF (D := G) (ci := 10) (v := .ref q48) (ty := .array .int) (C := RX10) (T := TX10) (N := 20) hx hb hT iw_X10 tyX10 tyX10_ok nmX10 hown hK.1 hP hD hS 0 rfl rfl 12 (by decide) (hT _ tb_224) (fun _ h9 => h9) rfl hin rfl (by decide +kernel) rfl rfl (Nat.le_of_ble_eq_true rfl) dX10_init_25 (fun H locs hP hD hS => ?_)
  obtain ⟨hP, hD⟩ : PD G A [(h0, .inr (10, [.int 0, .int 0, .int 0, .int 0, .int 0, .int 0, .int 0, .int 0, .int 0, .long 0, .ref q46, .ref q47, .ref q48, .null, .null, .null, .null, .null, .null, .null]))] H := ⟨hP.sub [0] rfl, hD.sub [0] (by decide) rfl⟩
  refine lv_aload_n hx hb dX10_init_28 rfl (lv_at hl 0 rfl) ?_
  refine lv_bipush (v := 16) hx hb dX10_init_29 (by decide) ?_
  refine kn_a (atype := .int) (ty := .int) (N' := 16) (a0 := (16, .inl (fun _ => 0))) hx hb (hT _ tb_182) rfl hK hP hD hS hA 1 rfl (fun _ => rfl) (by decide) (by decide) (by decide) (Nat.le_of_ble_eq_true rfl) (Nat.le_of_ble_eq_true rfl) dX10_init_31 (fun q49 H hP hD hS => ?_)
  obtain ⟨hP, hD⟩ : PD G A [(h0, .inr (10, [.int 0, .int 0, .int 0, .int 0, .int 0, .int 0, .int 0, .int 0, .int 0, .long 0, .ref q46, .ref q47, .ref q48, .null, .null, .null, .null, .null, .null, .null])), (q49, .inl (cy 1, 16, .inl (fun _ => 0)))] H := ⟨hP, hD⟩
  refine W.widen (k := 4) (n := 34) (Nat.le_of_ble_eq_true rfl) (Nat.le_of_ble_eq_true rfl) ?_
  refine va_putF (D := G) (ci := 10) (v := .ref q49) (ty := .array .int) (C := RX10) (T := TX10) (N := 20) hx hb hT iw_X10 tyX10 tyX10_ok nmX10 hown hK.1 hP hD hS 0 rfl rfl 13 (by decide) (hT _ tb_227) (fun _ h9 => h9) rfl hin rfl (by decide +kernel) rfl rfl (Nat.le_of_ble_eq_true rfl) dX10_init_33 (fun H locs hP hD hS => ?_)
  obtain ⟨hP, hD⟩ : PD G A [(h0, .inr (10, [.int 0, .int 0, .int 0, .int 0, .int 0, .int 0, .int 0, .int 0, .int 0, .long 0, .ref q46, .ref q47, .ref q48, .ref q49, .null, .null, .null, .null, .null, .null]))] H := ⟨hP.sub [0] rfl, hD.sub [0] (by decide) rfl⟩
  refine lv_aload_n hx hb dX10_init_36 rfl (lv_at hl 0 rfl) ?_
  refine lv_bipush (v := 16) hx hb dX10_init_37 (by decide) ?_
  refine kn_a (atype := .long) (ty := .long) (N' := 16) (a0 := (16, .inr (.inl (fun _ => 0)))) hx hb (hT _ tb_181) rfl hK hP hD hS hA 2 rfl (fun _ => rfl) (by decide) (by decide) (by decide) (Nat.le_of_ble_eq_true rfl) (Nat.le_of_ble_eq_true rfl) dX10_init_39 (fun q50 H hP hD hS => ?_)
  obtain ⟨hP, hD⟩ : PD G A [(h0, .inr (10, [.int 0, .int 0, .int 0, .int 0, .int 0, .int 0, .int 0, .int 0, .int 0, .long 0, .ref q46, .ref q47, .ref q48, .ref q49, .null, .null, .null, .null, .null, .null])), (q50, .inl (cy 2, 16, .inr (.inl (fun _ => 0))))] H := ⟨hP, hD⟩
  refine W.widen (k := 5) (n := 50) (Nat.le_of_ble_eq_true rfl) (Nat.le_of_ble_eq_true rfl) ?_
  refine va_putF (D := G) (ci := 10) (v := .ref q50) (ty := .array .long) (C := RX10) (T := TX10) (N := 20) hx hb hT iw_X10 tyX10 tyX10_ok nmX10 hown hK.1 hP hD hS 0 rfl rfl 14 (by decide) (hT _ tb_230) (fun _ h9 => h9) rfl hin rfl (by decide +kernel) rfl rfl (Nat.le_of_ble_eq_true rfl) dX10_init_41 (fun H locs hP hD hS => ?_)
  obtain ⟨hP, hD⟩ : PD G A [(h0, .inr (10, [.int 0, .int 0, .int 0, .int 0, .int 0, .int 0, .int 0, .int 0, .int 0, .long 0, .ref q46, .ref q47, .ref q48, .ref q49, .ref q50, .null, .null, .null, .null, .null]))] H := ⟨hP.sub [0] rfl, hD.sub [0] (by decide) rfl⟩
  refine lv_aload_n hx hb dX10_init_44 rfl (lv_at hl 0 rfl) ?_
  refine lv_bipush (v := 8) hx hb dX10_init_45 (by decide) ?_
  refine kn_a (atype := .long) (ty := .long) (N' := 8) (a0 := (8, .inr (.inl (fun _ => 0)))) hx hb (hT _ tb_181) rfl hK hP hD hS hA 2 rfl (fun _ => rfl) (by decide) (by decide) (by decide) (Nat.le_of_ble_eq_true rfl) (Nat.le_of_ble_eq_true rfl) dX10_init_47 (fun q51 H hP hD hS => ?_)
  obtain ⟨hP, hD⟩ : PD G A [(h0, .inr (10, [.int 0, .int 0, .int 0, .int 0, .int 0, .int 0, .int 0, .int 0, .int 0, .long 0, .ref q46, .ref q47, .ref q48, .ref q49, .ref q50, .null, .null, .null, .null, .null])), (q51, .inl (cy 2, 8, .inr (.inl (fun _ => 0))))] H := ⟨hP, hD⟩
  refine W.widen (k := 6) (n := 58) (Nat.le_of_ble_eq_true rfl) (Nat.le_of_ble_eq_true rfl) ?_
  refine va_putF (D := G) (ci := 10) (v := .ref q51) (ty := .array .long) (C := RX10) (T := TX10) (N := 20) hx hb hT iw_X10 tyX10 tyX10_ok nmX10 hown hK.1 hP hD hS 0 rfl rfl 15 (by decide) (hT _ tb_233) (fun _ h9 => h9) rfl hin rfl (by decide +kernel) rfl rfl (Nat.le_of_ble_eq_true rfl) dX10_init_49 (fun H locs hP hD hS => ?_)
  obtain ⟨hP, hD⟩ : PD G A [(h0, .inr (10, [.int 0, .int 0, .int 0, .int 0, .int 0, .int 0, .int 0, .int 0, .int 0, .long 0, .ref q46, .ref q47, .ref q48, .ref q49, .ref q50, .ref q51, .null, .null, .null, .null]))] H := ⟨hP.sub [0] rfl, hD.sub [0] (by decide) rfl⟩
  refine lv_aload_n hx hb dX10_init_52 rfl (lv_at hl 0 rfl) ?_
  refine lv_bipush (v := 8) hx hb dX10_init_53 (by decide) ?_
  refine kn_a (atype := .int) (ty := .int) (N' := 8) (a0 := (8, .inl (fun _ => 0))) hx hb (hT _ tb_182) rfl hK hP hD hS hA 1 rfl (fun _ => rfl) (by decide) (by decide) (by decide) (Nat.le_of_ble_eq_true rfl) (Nat.le_of_ble_eq_true rfl) dX10_init_55 (fun q52 H hP hD hS => ?_)
  obtain ⟨hP, hD⟩ : PD G A [(h0, .inr (10, [.int 0, .int 0, .int 0, .int 0, .int 0, .int 0, .int 0, .int 0, .int 0, .long 0, .ref q46, .ref q47, .ref q48, .ref q49, .ref q50, .ref q51, .null, .null, .null, .null])), (q52, .inl (cy 1, 8, .inl (fun _ => 0)))] H := ⟨hP, hD⟩
  refine W.widen (k := 7) (n := 66) (Nat.le_of_ble_eq_true rfl) (Nat.le_of_ble_eq_true rfl) ?_
  refine va_putF (D := G) (ci := 10) (v := .ref q52) (ty := .array .int) (C := RX10) (T := TX10) (N := 20) hx hb hT iw_X10 tyX10 tyX10_ok nmX10 hown hK.1 hP hD hS 0 rfl rfl 16 (by decide) (hT _ tb_234) (fun _ h9 => h9) rfl hin rfl (by decide +kernel) rfl rfl (Nat.le_of_ble_eq_true rfl) dX10_init_57 (fun H locs hP hD hS => ?_)
  obtain ⟨hP, hD⟩ : PD G A [(h0, .inr (10, [.int 0, .int 0, .int 0, .int 0, .int 0, .int 0, .int 0, .int 0, .int 0, .long 0, .ref q46, .ref q47, .ref q48, .ref q49, .ref q50, .ref q51, .ref q52, .null, .null, .null]))] H := ⟨hP.sub [0] rfl, hD.sub [0] (by decide) rfl⟩
  refine lv_aload_n hx hb dX10_init_60 rfl (lv_at hl 0 rfl) ?_
  refine lv_bipush (v := 8) hx hb dX10_init_61 (by decide) ?_
  refine kn_a (atype := .long) (ty := .long) (N' := 8) (a0 := (8, .inr (.inl (fun _ => 0)))) hx hb (hT _ tb_181) rfl hK hP hD hS hA 2 rfl (fun _ => rfl) (by decide) (by decide) (by decide) (Nat.le_of_ble_eq_true rfl) (Nat.le_of_ble_eq_true rfl) dX10_init_63 (fun q53 H hP hD hS => ?_)
  obtain ⟨hP, hD⟩ : PD G A [(h0, .inr (10, [.int 0, .int 0, .int 0, .int 0, .int 0, .int 0, .int 0, .int 0, .int 0, .long 0, .ref q46, .ref q47, .ref q48, .ref q49, .ref q50, .ref q51, .ref q52, .null, .null, .null])), (q53, .inl (cy 2, 8, .inr (.inl (fun _ => 0))))] H := ⟨hP, hD⟩
  refine W.widen (k := 8) (n := 74) (Nat.le_of_ble_eq_true rfl) (Nat.le_of_ble_eq_true rfl) ?_
  refine va_putF (D := G) (ci := 10) (v := .ref q53) (ty := .array .long) (C := RX10) (T := TX10) (N := 20) hx hb hT iw_X10 tyX10 tyX10_ok nmX10 hown hK.1 hP hD hS 0 rfl rfl 17 (by decide) (hT _ tb_238) (fun _ h9 => h9) rfl hin rfl (by decide +kernel) rfl rfl (Nat.le_of_ble_eq_true rfl) dX10_init_65 (fun H locs hP hD hS => ?_)
  obtain ⟨hP, hD⟩ : PD G A [(h0, .inr (10, [.int 0, .int 0, .int 0, .int 0, .int 0, .int 0, .int 0, .int 0, .int 0, .long 0, .ref q46, .ref q47, .ref q48, .ref q49, .ref q50, .ref q51, .ref q52, .ref q53, .null, .null]))] H := ⟨hP.sub [0] rfl, hD.sub [0] (by decide) rfl⟩
  refine lv_aload_n hx hb dX10_init_68 rfl (lv_at hl 0 rfl) ?_
  refine va_new (ci := 2) (fs := [.null, .null, .int 0, .int 0, .int 0]) (C := RX2) (T := TX2) (N := 5) hx hb hT iw_X2 tyX2 tyX2_ok hown (hT _ tb_158) (hT _ tb_159) (hT _ tb_108) hK.1 hP hD hS hA rfl nf_X2 (Nat.le_of_ble_eq_true rfl) (Nat.le_of_ble_eq_true rfl) dX10_init_69 (fun q54 H hP hD hS => ?_)
  obtain ⟨hP, hD⟩ : PD G A [(h0, .inr (10, [.int 0, .int 0, .int 0, .int 0, .int 0, .int 0, .int 0, .int 0, .int 0, .long 0, .ref q46, .ref q47, .ref q48, .ref q49, .ref q50, .ref q51, .ref q52, .ref q53, .null, .null])), (q54, .inr (2, [.null, .null, .int 0, .int 0, .int 0]))] H := ⟨hP, hD⟩
  refine W.widen (k := 9) (n := 79) (Nat.le_of_ble_eq_true rfl) (Nat.le_of_ble_eq_true rfl) ?_
  refine lv_dup hx hb dX10_init_72 rfl ?_
  refine kc_v (W1 := [(q54, .inr (2, [.null, .null, .int 0, .int 0, .int 0]))]) (wr := [(h0, .inr (10, [.int 0, .int 0, .int 0, .int 0, .int 0, .int 0, .int 0, .int 0, .int 0, .long 0, .ref q46, .ref q47, .ref q48, .ref q49, .ref q50, .ref q51, .ref q52, .ref q53, .null, .null]))]) [1] [0] rfl rfl (by decide) (by decide) hP hD hS hA (va_runIN (As := []) (rest := [.ref q54, .ref h0]) ⟨hx, hb, hml, hown, hT⟩ (cX2_init_0 l G cy ev _ q54) ⟨va_cnB 0 hT (good_TB tb_162) rfl rfl rfl (hK.2 _ nw_56) (hT _ tb_108) (by decide +kernel) ⟨Nat.le_of_ble_eq_true rfl, Nat.le_of_ble_eq_true rfl⟩, rfl, hT _ tb_161⟩ (PB.preS hK hE hS hA hP hD [1] rfl (by decide)) rfl rfl hl.1 rfl (lv_room (Nat.le_of_ble_eq_true rfl)) dX10_init_73 ⟨Nat.le_of_ble_eq_true rfl, Nat.le_of_ble_eq_true rfl⟩) (fun u H locs hw hP hD hS => ?_)
  obtain ⟨q57, q58⟩ := u
  obtain ⟨hP, hD⟩ : PD G A [(h0, .inr (10, [.int 0, .int 0, .int 0, .int 0, .int 0, .int 0, .int 0, .int 0, .int 0, .long 0, .ref q46, .ref q47, .ref q48, .ref q49, .ref q50, .ref q51, .ref q52, .ref q53, .null, .null])), (q54, .inr (2, [.ref q57, .ref q58, .int 0, .int 0, .int 0])), (q57, .inl (cy 1, 400, .inl (fun _ => 0)))] H := ⟨hP, hD⟩
  refine W.widen (k := 11) (n := 511) (Nat.le_of_ble_eq_true rfl) (Nat.le_of_ble_eq_true rfl) ?_
  refine va_putF (D := G) (ci := 10) (v := .ref q54) (ty := .object "LieClock$Law") (C := RX10) (T := TX10) (N := 20) hx hb hT iw_X10 tyX10 tyX10_ok nmX10 hown hK.1 hP hD hS 0 rfl rfl 18 (by decide) (hT _ tb_241) (fun _ h9 => h9) rfl hin rfl (by decide +kernel) rfl rfl (Nat.le_of_ble_eq_true rfl) dX10_init_76 (fun H locs hP hD hS => ?_)
  obtain ⟨hP, hD⟩ : PD G A [(h0, .inr (10, [.int 0, .int 0, .int 0, .int 0, .int 0, .int 0, .int 0, .int 0, .int 0, .long 0, .ref q46, .ref q47, .ref q48, .ref q49, .ref q50, .ref q51, .ref q52, .ref q53, .ref q54, .null])), (q54, .inr (2, [.ref q57, .ref q58, .int 0, .int 0, .int 0])), (q57, .inl (cy 1, 400, .inl (fun _ => 0)))] H := ⟨hP, hD⟩
  refine lv_aload_n hx hb dX10_init_79 rfl (lv_at hl 0 rfl) ?_
  refine va_new (ci := 2) (fs := [.null, .null, .int 0, .int 0, .int 0]) (C := RX2) (T := TX2) (N := 5) hx hb hT iw_X2 tyX2 tyX2_ok hown (hT _ tb_158) (hT _ tb_159) (hT _ tb_108) hK.1 hP hD hS hA rfl nf_X2 (Nat.le_of_ble_eq_true rfl) (Nat.le_of_ble_eq_true rfl) dX10_init_80 (fun q59 H hP hD hS => ?_)
  obtain ⟨hP, hD⟩ : PD G A [(h0, .inr (10, [.int 0, .int 0, .int 0, .int 0, .int 0, .int 0, .int 0, .int 0, .int 0, .long 0, .ref q46, .ref q47, .ref q48, .ref q49, .ref q50, .ref q51, .ref q52, .ref q53, .ref q54, .null])), (q54, .inr (2, [.ref q57, .ref q58, .int 0, .int 0, .int 0])), (q57, .inl (cy 1, 400, .inl (fun _ => 0))), (q59, .inr (2, [.null, .null, .int 0, .int 0, .int 0]))] H := ⟨hP, hD⟩
  refine W.widen (k := 12) (n := 516) (Nat.le_of_ble_eq_true rfl) (Nat.le_of_ble_eq_true rfl) ?_
  refine lv_dup hx hb dX10_init_83 rfl ?_
  refine kc_v (W1 := [(q59, .inr (2, [.null, .null, .int 0, .int 0, .int 0]))]) (wr := [(h0, .inr (10, [.int 0, .int 0, .int 0, .int 0, .int 0, .int 0, .int 0, .int 0, .int 0, .long 0, .ref q46, .ref q47, .ref q48, .ref q49, .ref q50, .ref q51, .ref q52, .ref q53, .ref q54, .null])), (q54, .inr (2, [.ref q57, .ref q58, .int 0, .int 0, .int 0])), (q57, .inl (cy 1, 400, .inl (fun _ => 0)))]) [3] [0, 1, 2] rfl rfl (by decide) (by decide) hP hD hS hA (va_runIN (As := []) (rest := [.ref q59, .ref h0]) ⟨hx, hb, hml, hown, hT⟩ (cX2_init_0 l G cy ev _ q59) ⟨va_cnB 0 hT (good_TB tb_162) rfl rfl rfl (hK.2 _ nw_56) (hT _ tb_108) (by decide +kernel) ⟨Nat.le_of_ble_eq_true rfl, Nat.le_of_ble_eq_true rfl⟩, rfl, hT _ tb_161⟩ (PB.preS hK hE hS hA hP hD [3] rfl (by decide)) rfl rfl hl.1 rfl (lv_room (Nat.le_of_ble_eq_true rfl)) dX10_init_84 ⟨Nat.le_of_ble_eq_true rfl, Nat.le_of_ble_eq_true rfl⟩) (fun u H locs hw hP hD hS => ?_)
  obtain ⟨q62, q63⟩ := u
  obtain ⟨hP, hD⟩ : PD G A [(h0, .inr (10, [.int 0, .int 0, .int 0, .int 0, .int 0, .int 0, .int 0, .int 0, .int 0, .long 0, .ref q46, .ref q47, .ref q48, .ref q49, .ref q50, .ref q51, .ref q52, .ref q53, .ref q54, .null])), (q54, .inr (2, [.ref q57, .ref q58, .int 0, .int 0, .int 0])), (q57, .inl (cy 1, 400, .inl (fun _ => 0))), (q59, .inr (2, [.ref q62, .ref q63, .int 0, .int 0, .int 0])), (q62, .inl (cy 1, 400, .inl (fun _ => 0)))] H := ⟨hP, hD⟩
  refine W.widen (k := 14) (n := 948) (Nat.le_of_ble_eq_true rfl) (Nat.le_of_ble_eq_true rfl) ?_
  refine va_putF (D := G) (ci := 10) (v := .ref q59) (ty := .object "LieClock$Law") (C := RX10) (T := TX10) (N := 20) hx hb hT iw_X10 tyX10 tyX10_ok nmX10 hown hK.1 hP hD hS 0 rfl rfl 19 (by decide) (hT _ tb_244) (fun _ h9 => h9) rfl hin rfl (by decide +kernel) rfl rfl (Nat.le_of_ble_eq_true rfl) dX10_init_87 (fun H locs hP hD hS => ?_)
  obtain ⟨hP, hD⟩ : PD G A [(h0, .inr (10, [.int 0, .int 0, .int 0, .int 0, .int 0, .int 0, .int 0, .int 0, .int 0, .long 0, .ref q46, .ref q47, .ref q48, .ref q49, .ref q50, .ref q51, .ref q52, .ref q53, .ref q54, .ref q59])), (q54, .inr (2, [.ref q57, .ref q58, .int 0, .int 0, .int 0])), (q57, .inl (cy 1, 400, .inl (fun _ => 0))), (q59, .inr (2, [.ref q62, .ref q63, .int 0, .int 0, .int 0])), (q62, .inl (cy 1, 400, .inl (fun _ => 0)))] H := ⟨hP, hD⟩
  exact kr_v hx hb hr hlocks hP hD hS (u := ((fun k => ([q54, q59, q57, q62, q46, q47, q48, q49, q50, q51, q52, q53, q58, q63] : List Nat).getD k 0) : (Nat → Nat))) trivial [0, 1, 3, 2, 4] rfl (by decide) (Nat.le_of_ble_eq_true rfl) (Nat.le_of_ble_eq_true rfl) dX10_init_90

set_option maxRecDepth 100000 in
set_option maxHeartbeats 4000000 in
theorem cX7_init_0 (l : Launch) (G : va_G) (cy : Nat → ClassId) (ev : Ev) (sz : Nat) (h0 : Nat)  : Met l yX7_init (WS yX7_init cX7_init 2 none) { frames := 1, cells := 3, slots := 22, locals := 20 } (PB [.ref h0, .int 1] sz G cy ev [(h0, .inr (7, [.int 0, .int 0, .int 0, .int 0, .int 0, .long 0, .int 0, .int 0, .int 0, .int 0, .null, .null, .null]))]) (QBv (S := Nat × Nat × Nat) (fun _ : Nat × Nat × Nat => True) G (fun u => [(h0, .inr (7, [.int 0, .int 0, .int 0, .int 0, .int 0, .long 0, .int 0, .int 0, .int 0, .int 1, .ref u.1, .ref u.2.1, .ref u.2.2])), (u.1, .inl (cy 1, 8, .inl (fun _ => 0))), (u.2.1, .inl (cy 1, 8, .inl (fun _ => 0))), (u.2.2, .inl (cy 1, 6, .inl (fun _ => 0)))]) (va_A [(h0, .inr (7, [.int 0, .int 0, .int 0, .int 0, .int 0, .long 0, .int 0, .int 0, .int 0, .int 0, .null, .null, .null]))] sz)) 3 22 (va_A [(h0, .inr (7, [.int 0, .int 0, .int 0, .int 0, .int 0, .long 0, .int 0, .int 0, .int 0, .int 0, .null, .null, .null]))] sz) := by
  refine met_of (y := yX7_init) (L := 2) (av := [.ref h0, .int 1]) (Qc := fun A => QBv (S := Nat × Nat × Nat) (fun _ : Nat × Nat × Nat => True) G (fun u => [(h0, .inr (7, [.int 0, .int 0, .int 0, .int 0, .int 0, .long 0, .int 0, .int 0, .int 0, .int 1, .ref u.1, .ref u.2.1, .ref u.2.2])), (u.1, .inl (cy 1, 8, .inl (fun _ => 0))), (u.2.1, .inl (cy 1, 8, .inl (fun _ => 0))), (u.2.2, .inl (cy 1, 6, .inl (fun _ => 0)))]) A) (by decide) (Nat.le_of_ble_eq_true rfl) ?_
  intro p e s m below meth c hx hb hr hml hown hT hlocks hin hK A hA hE hP hD hS ls hl
  have hown : s.vm.findClass "LieClock$State" = some m.cls := hown
  have hl : lv_has ls 2 [(0, .ref h0), (1, .int 1)] := hl
  refine lv_aload_n hx hb dX7_init_0 rfl (lv_at hl 0 rfl) ?_
  refine W.objInit hx hb hown (hT _ tb_410) (hT _ tb_134) (hT _ tb_135) rfl (by rw [hml]; exact hl.1) rfl dX7_init_1 (Nat.le_of_ble_eq_true rfl) (Nat.le_of_ble_eq_true rfl) ?_
  refine W.eq (g2 := F0 m 4 ls []) rfl ?_
  refine lv_aload_n hx hb dX7_init_4 rfl (lv_at hl 0 rfl) ?_
  refine lv_bipush (v := 8) hx hb dX7_init_5 (by decide) ?_
  refine kn_a (atype := .int) (ty := .int) (N' := 8) (a0 := (8, .inl (fun _ => 0))) hx hb (hT _ tb_182) rfl hK hP hD hS hA 1 rfl (fun _ => rfl) (by decide) (by decide) (by decide) (Nat.le_of_ble_eq_true rfl) (Nat.le_of_ble_eq_true rfl) dX7_init_7 (fun q70 H hP hD hS => ?_)
  obtain ⟨hP, hD⟩ : PD G A [(h0, .inr (7, [.int 0, .int 0, .int 0, .int 0, .int 0, .long 0, .int 0, .int 0, .int 0, .int 0, .null, .null, .null])), (q70, .inl (cy 1, 8, .inl (fun _ => 0)))] H := ⟨hP, hD⟩
  refine W.widen (k := 1) (n := 8) (Nat.le_of_ble_eq_true rfl) (Nat.le_of_ble_eq_true rfl) ?_
  refine va_putF (D := G) (ci := 7) (v := .ref q70) (ty := .array .int) (C := RX7) (T := TX7) (N := 13) hx hb hT iw_X7 tyX7 tyX7_ok nmX7 hown hK.1 hP hD hS 0 rfl rfl 10 (by decide) (hT _ tb_438) (fun _ h9 => h9) rfl hin rfl (by decide +kernel) rfl rfl (Nat.le_of_ble_eq_true rfl) dX7_init_9 (fun H locs hP hD hS => ?_)
  obtain ⟨hP, hD⟩ : PD G A [(h0, .inr (7, [.int 0, .int 0, .int 0, .int 0, .int 0, .long 0, .int 0, .int 0, .int 0, .int 0, .ref q70, .null, .null])), (q70, .inl (cy 1, 8, .inl (fun _ => 0)))] H := ⟨hP, hD⟩
  refine lv_aload_n hx hb dX7_init_12 rfl (lv_at hl 0 rfl) ?_
  refine lv_bipush (v := 8) hx hb dX7_init_13 (by decide) ?_
  refine kn_a (atype := .int) (ty := .int) (N' := 8) (a0 := (8, .inl (fun _ => 0))) hx hb (hT _ tb_182) rfl hK hP hD hS hA 1 rfl (fun _ => rfl) (by decide) (by decide) (by decide) (Nat.le_of_ble_eq_true rfl) (Nat.le_of_ble_eq_true rfl) dX7_init_15 (fun q71 H hP hD hS => ?_)
  obtain ⟨hP, hD⟩ : PD G A [(h0, .inr (7, [.int 0, .int 0, .int 0, .int 0, .int 0, .long 0, .int 0, .int 0, .int 0, .int 0, .ref q70, .null, .null])), (q70, .inl (cy 1, 8, .inl (fun _ => 0))), (q71, .inl (cy 1, 8, .inl (fun _ => 0)))] H := ⟨hP, hD⟩
  refine W.widen (k := 2) (n := 16) (Nat.le_of_ble_eq_true rfl) (Nat.le_of_ble_eq_true rfl) ?_
  refine va_putF (D := G) (ci := 7) (v := .ref q71) (ty := .array .int) (C := RX7) (T := TX7) (N := 13) hx hb hT iw_X7 tyX7 tyX7_ok nmX7 hown hK.1 hP hD hS 0 rfl rfl 11 (by decide) (hT _ tb_440) (fun _ h9 => h9) rfl hin rfl (by decide +kernel) rfl rfl (Nat.le_of_ble_eq_true rfl) dX7_init_17 (fun H locs hP hD hS => ?_)
  obtain ⟨hP, hD⟩ : PD G A [(h0, .inr (7, [.int 0, .int 0, .int 0, .int 0, .int 0, .long 0, .int 0, .int 0, .int 0, .int 0, .ref q70, .ref q71, .null])), (q70, .inl (cy 1, 8, .inl (fun _ => 0))), (q71, .inl (cy 1, 8, .inl (fun _ => 0)))] H := ⟨hP, hD⟩
  refine lv_aload_n hx hb dX7_init_20 rfl (lv_at hl 0 rfl) ?_
  refine lv_bipush (v := 6) hx hb dX7_init_21 (by decide) ?_
  refine kn_a (atype := .int) (ty := .int) (N' := 6) (a0 := (6, .inl (fun _ => 0))) hx hb (hT _ tb_182) rfl hK hP hD hS hA 1 rfl (fun _ => rfl) (by decide) (by decide) (by decide) (Nat.le_of_ble_eq_true rfl) (Nat.le_of_ble_eq_true rfl) dX7_init_23 (fun q72 H hP hD hS => ?_)
  obtain ⟨hP, hD⟩ : PD G A [(h0, .inr (7, [.int 0, .int 0, .int 0, .int 0, .int 0, .long 0, .int 0, .int 0, .int 0, .int 0, .ref q70, .ref q71, .null])), (q70, .inl (cy 1, 8, .inl (fun _ => 0))), (q71, .inl (cy 1, 8, .inl (fun _ => 0))), (q72, .inl (cy 1, 6, .inl (fun _ => 0)))] H := ⟨hP, hD⟩
  refine W.widen (k := 3) (n := 22) (Nat.le_of_ble_eq_true rfl) (Nat.le_of_ble_eq_true rfl) ?_
  refine va_putF (D := G) (ci := 7) (v := .ref q72) (ty := .array .int) (C := RX7) (T := TX7) (N := 13) hx hb hT iw_X7 tyX7 tyX7_ok nmX7 hown hK.1 hP hD hS 0 rfl rfl 12 (by decide) (hT _ tb_442) (fun _ h9 => h9) rfl hin rfl (by decide +kernel) rfl rfl (Nat.le_of_ble_eq_true rfl) dX7_init_25 (fun H locs hP hD hS => ?_)
  obtain ⟨hP, hD⟩ : PD G A [(h0, .inr (7, [.int 0, .int 0, .int 0, .int 0, .int 0, .long 0, .int 0, .int 0, .int 0, .int 0, .ref q70, .ref q71, .ref q72])), (q70, .inl (cy 1, 8, .inl (fun _ => 0))), (q71, .inl (cy 1, 8, .inl (fun _ => 0))), (q72, .inl (cy 1, 6, .inl (fun _ => 0)))] H := ⟨hP, hD⟩
  refine lv_aload_n hx hb dX7_init_28 rfl (lv_at hl 0 rfl) ?_
  refine lv_iload_n hx hb dX7_init_29 rfl (lv_at hl 1 rfl) ?_
  refine va_putF (D := G) (ci := 7) (v := .int 1) (ty := .boolean) (C := RX7) (T := TX7) (N := 13) hx hb hT iw_X7 tyX7 tyX7_ok nmX7 hown hK.1 hP hD hS 0 rfl rfl 9 (by decide) (hT _ tb_437) (fun _ h9 => h9) rfl hin rfl (by decide +kernel) rfl rfl (Nat.le_of_ble_eq_true rfl) dX7_init_30 (fun H locs hP hD hS => ?_)
  obtain ⟨hP, hD⟩ : PD G A [(h0, .inr (7, [.int 0, .int 0, .int 0, .int 0, .int 0, .long 0, .int 0, .int 0, .int 0, .int 1, .ref q70, .ref q71, .ref q72])), (q70, .inl (cy 1, 8, .inl (fun _ => 0))), (q71, .inl (cy 1, 8, .inl (fun _ => 0))), (q72, .inl (cy 1, 6, .inl (fun _ => 0)))] H := ⟨hP, hD⟩
  exact kr_v hx hb hr hlocks hP hD hS (u := ((q70, q71, q72) : Nat × Nat × Nat)) trivial [0, 1, 2, 3] rfl (by decide) (Nat.le_of_ble_eq_true rfl) (Nat.le_of_ble_eq_true rfl) dX7_init_33

set_option maxRecDepth 100000 in
set_option maxHeartbeats 4000000 in
theorem cX3_init_0 (l : Launch) (G : va_G) (cy : Nat → ClassId) (ev : Ev) (sz : Nat) (h0 : Nat)  : Met l yX3_init (WS yX3_init cX3_init 1 none) { frames := 1, cells := 6, slots := 1792, locals := 20 } (PB [.ref h0] sz G cy ev [(h0, .inr (3, [.null, .null, .null, .null, .null, .null, .int 0]))]) (QBv (S := Nat × Nat × Nat × Nat × Nat × Nat) (fun _ : Nat × Nat × Nat × Nat × Nat × Nat => True) G (fun u => [(h0, .inr (3, [.ref u.1, .ref u.2.1, .ref u.2.2.1, .ref u.2.2.2.1, .ref u.2.2.2.2.1, .ref u.2.2.2.2.2, .int 0])), (u.1, .inl (cy 1, 256, .inl (fun _ => 0))), (u.2.1, .inl (cy 1, 256, .inl (fun _ => 0))), (u.2.2.1, .inl (cy 1, 256, .inl (fun _ => 0))), (u.2.2.2.1, .inl (cy 1, 256, .inl (fun _ => 0))), (u.2.2.2.2.1, .inl (cy 2, 256, .inr (.inl (fun _ => 0)))), (u.2.2.2.2.2, .inl (cy 1, 512, .inl (fun _ => 0)))]) (va_A [(h0, .inr (3, [.null, .null, .null, .null, .null, .null, .int 0]))] sz)) 6 1792 (va_A [(h0, .inr (3, [.null, .null, .null, .null, .null, .null, .int 0]))] sz) := by
  refine met_of (y := yX3_init) (L := 1) (av := [.ref h0]) (Qc := fun A => QBv (S := Nat × Nat × Nat × Nat × Nat × Nat) (fun _ : Nat × Nat × Nat × Nat × Nat × Nat => True) G (fun u => [(h0, .inr (3, [.ref u.1, .ref u.2.1, .ref u.2.2.1, .ref u.2.2.2.1, .ref u.2.2.2.2.1, .ref u.2.2.2.2.2, .int 0])), (u.1, .inl (cy 1, 256, .inl (fun _ => 0))), (u.2.1, .inl (cy 1, 256, .inl (fun _ => 0))), (u.2.2.1, .inl (cy 1, 256, .inl (fun _ => 0))), (u.2.2.2.1, .inl (cy 1, 256, .inl (fun _ => 0))), (u.2.2.2.2.1, .inl (cy 2, 256, .inr (.inl (fun _ => 0)))), (u.2.2.2.2.2, .inl (cy 1, 512, .inl (fun _ => 0)))]) A) (by decide) (Nat.le_of_ble_eq_true rfl) ?_
  intro p e s m below meth c hx hb hr hml hown hT hlocks hin hK A hA hE hP hD hS ls hl
  have hown : s.vm.findClass "LieClock$Nodes" = some m.cls := hown
  have hl : lv_has ls 1 [(0, .ref h0)] := hl
  refine lv_aload_n hx hb dX3_init_0 rfl (lv_at hl 0 rfl) ?_
  refine W.objInit hx hb hown (hT _ tb_491) (hT _ tb_134) (hT _ tb_135) rfl (by rw [hml]; exact hl.1) rfl dX3_init_1 (Nat.le_of_ble_eq_true rfl) (Nat.le_of_ble_eq_true rfl) ?_
  refine W.eq (g2 := F0 m 4 ls []) rfl ?_
  refine lv_aload_n hx hb dX3_init_4 rfl (lv_at hl 0 rfl) ?_
  refine lv_sipush (v := 256) hx hb dX3_init_5 (by decide) ?_
  refine kn_a (atype := .int) (ty := .int) (N' := 256) (a0 := (256, .inl (fun _ => 0))) hx hb (hT _ tb_182) rfl hK hP hD hS hA 1 rfl (fun _ => rfl) (by decide) (by decide) (by decide) (Nat.le_of_ble_eq_true rfl) (Nat.le_of_ble_eq_true rfl) dX3_init_8 (fun q85 H hP hD hS => ?_)
  obtain ⟨hP, hD⟩ : PD G A [(h0, .inr (3, [.null, .null, .null, .null, .null, .null, .int 0])), (q85, .inl (cy 1, 256, .inl (fun _ => 0)))] H := ⟨hP, hD⟩
  refine W.widen (k := 1) (n := 256) (Nat.le_of_ble_eq_true rfl) (Nat.le_of_ble_eq_true rfl) ?_
  refine va_put (D := G) (ci := 3) (v := .ref q85) (ty := .array .int) (C := RX3) (T := TX3) (N := 7) hx hb hT iw_X3 tyX3 tyX3_ok nmX3 hown hK.1 hP hD hS 0 rfl rfl 0 (by decide) (hT _ tb_492) (fun _ h9 => h9) rfl (by decide +kernel) rfl rfl (Nat.le_of_ble_eq_true rfl) dX3_init_10 (fun H locs hP hD hS => ?_)
  obtain ⟨hP, hD⟩ : PD G A [(h0, .inr (3, [.ref q85, .null, .null, .null, .null, .null, .int 0])), (q85, .inl (cy 1, 256, .inl (fun _ => 0)))] H := ⟨hP, hD⟩
  refine lv_aload_n hx hb dX3_init_13 rfl (lv_at hl 0 rfl) ?_
  refine lv_sipush (v := 256) hx hb dX3_init_14 (by decide) ?_
  refine kn_a (atype := .int) (ty := .int) (N' := 256) (a0 := (256, .inl (fun _ => 0))) hx hb (hT _ tb_182) rfl hK hP hD hS hA 1 rfl (fun _ => rfl) (by decide) (by decide) (by decide) (Nat.le_of_ble_eq_true rfl) (Nat.le_of_ble_eq_true rfl) dX3_init_17 (fun q86 H hP hD hS => ?_)
  obtain ⟨hP, hD⟩ : PD G A [(h0, .inr (3, [.ref q85, .null, .null, .null, .null, .null, .int 0])), (q85, .inl (cy 1, 256, .inl (fun _ => 0))), (q86, .inl (cy 1, 256, .inl (fun _ => 0)))] H := ⟨hP, hD⟩
  refine W.widen (k := 2) (n := 512) (Nat.le_of_ble_eq_true rfl) (Nat.le_of_ble_eq_true rfl) ?_
  refine va_put (D := G) (ci := 3) (v := .ref q86) (ty := .array .int) (C := RX3) (T := TX3) (N := 7) hx hb hT iw_X3 tyX3 tyX3_ok nmX3 hown hK.1 hP hD hS 0 rfl rfl 1 (by decide) (hT _ tb_495) (fun _ h9 => h9) rfl (by decide +kernel) rfl rfl (Nat.le_of_ble_eq_true rfl) dX3_init_19 (fun H locs hP hD hS => ?_)
  obtain ⟨hP, hD⟩ : PD G A [(h0, .inr (3, [.ref q85, .ref q86, .null, .null, .null, .null, .int 0])), (q85, .inl (cy 1, 256, .inl (fun _ => 0))), (q86, .inl (cy 1, 256, .inl (fun _ => 0)))] H := ⟨hP, hD⟩
  refine lv_aload_n hx hb dX3_init_22 rfl (lv_at hl 0 rfl) ?_
  refine lv_sipush (v := 256) hx hb dX3_init_23 (by decide) ?_
  refine kn_a (atype := .int) (ty := .int) (N' := 256) (a0 := (256, .inl (fun _ => 0))) hx hb (hT _ tb_182) rfl hK hP hD hS hA 1 rfl (fun _ => rfl) (by decide) (by decide) (by decide) (Nat.le_of_ble_eq_true rfl) (Nat.le_of_ble_eq_true rfl) dX3_init_26 (fun q87 H hP hD hS => ?_)
  obtain ⟨hP, hD⟩ : PD G A [(h0, .inr (3, [.ref q85, .ref q86, .null, .null, .null, .null, .int 0])), (q85, .inl (cy 1, 256, .inl (fun _ => 0))), (q86, .inl (cy 1, 256, .inl (fun _ => 0))), (q87, .inl (cy 1, 256, .inl (fun _ => 0)))] H := ⟨hP, hD⟩
  refine W.widen (k := 3) (n := 768) (Nat.le_of_ble_eq_true rfl) (Nat.le_of_ble_eq_true rfl) ?_
  refine va_put (D := G) (ci := 3) (v := .ref q87) (ty := .array .int) (C := RX3) (T := TX3) (N := 7) hx hb hT iw_X3 tyX3 tyX3_ok nmX3 hown hK.1 hP hD hS 0 rfl rfl 2 (by decide) (hT _ tb_497) (fun _ h9 => h9) rfl (by decide +kernel) rfl rfl (Nat.le_of_ble_eq_true rfl) dX3_init_28 (fun H locs hP hD hS => ?_)
  obtain ⟨hP, hD⟩ : PD G A [(h0, .inr (3, [.ref q85, .ref q86, .ref q87, .null, .null, .null, .int 0])), (q85, .inl (cy 1, 256, .inl (fun _ => 0))), (q86, .inl (cy 1, 256, .inl (fun _ => 0))), (q87, .inl (cy 1, 256, .inl (fun _ => 0)))] H := ⟨hP, hD⟩
  refine lv_aload_n hx hb dX3_init_31 rfl (lv_at hl 0 rfl) ?_
  refine lv_sipush (v := 256) hx hb dX3_init_32 (by decide) ?_
  refine kn_a (atype := .int) (ty := .int) (N' := 256) (a0 := (256, .inl (fun _ => 0))) hx hb (hT _ tb_182) rfl hK hP hD hS hA 1 rfl (fun _ => rfl) (by decide) (by decide) (by decide) (Nat.le_of_ble_eq_true rfl) (Nat.le_of_ble_eq_true rfl) dX3_init_35 (fun q88 H hP hD hS => ?_)
  obtain ⟨hP, hD⟩ : PD G A [(h0, .inr (3, [.ref q85, .ref q86, .ref q87, .null, .null, .null, .int 0])), (q85, .inl (cy 1, 256, .inl (fun _ => 0))), (q86, .inl (cy 1, 256, .inl (fun _ => 0))), (q87, .inl (cy 1, 256, .inl (fun _ => 0))), (q88, .inl (cy 1, 256, .inl (fun _ => 0)))] H := ⟨hP, hD⟩
  refine W.widen (k := 4) (n := 1024) (Nat.le_of_ble_eq_true rfl) (Nat.le_of_ble_eq_true rfl) ?_
  refine va_put (D := G) (ci := 3) (v := .ref q88) (ty := .array .int) (C := RX3) (T := TX3) (N := 7) hx hb hT iw_X3 tyX3 tyX3_ok nmX3 hown hK.1 hP hD hS 0 rfl rfl 3 (by decide) (hT _ tb_498) (fun _ h9 => h9) rfl (by decide +kernel) rfl rfl (Nat.le_of_ble_eq_true rfl) dX3_init_37 (fun H locs hP hD hS => ?_)
  obtain ⟨hP, hD⟩ : PD G A [(h0, .inr (3, [.ref q85, .ref q86, .ref q87, .ref q88, .null, .null, .int 0])), (q85, .inl (cy 1, 256, .inl (fun _ => 0))), (q86, .inl (cy 1, 256, .inl (fun _ => 0))), (q87, .inl (cy 1, 256, .inl (fun _ => 0))), (q88, .inl (cy 1, 256, .inl (fun _ => 0)))] H := ⟨hP, hD⟩
  refine lv_aload_n hx hb dX3_init_40 rfl (lv_at hl 0 rfl) ?_
  refine lv_sipush (v := 256) hx hb dX3_init_41 (by decide) ?_
  refine kn_a (atype := .long) (ty := .long) (N' := 256) (a0 := (256, .inr (.inl (fun _ => 0)))) hx hb (hT _ tb_181) rfl hK hP hD hS hA 2 rfl (fun _ => rfl) (by decide) (by decide) (by decide) (Nat.le_of_ble_eq_true rfl) (Nat.le_of_ble_eq_true rfl) dX3_init_44 (fun q89 H hP hD hS => ?_)
  obtain ⟨hP, hD⟩ : PD G A [(h0, .inr (3, [.ref q85, .ref q86, .ref q87, .ref q88, .null, .null, .int 0])), (q85, .inl (cy 1, 256, .inl (fun _ => 0))), (q86, .inl (cy 1, 256, .inl (fun _ => 0))), (q87, .inl (cy 1, 256, .inl (fun _ => 0))), (q88, .inl (cy 1, 256, .inl (fun _ => 0))), (q89, .inl (cy 2, 256, .inr (.inl (fun _ => 0))))] H := ⟨hP, hD⟩
  refine W.widen (k := 5) (n := 1280) (Nat.le_of_ble_eq_true rfl) (Nat.le_of_ble_eq_true rfl) ?_
  refine va_put (D := G) (ci := 3) (v := .ref q89) (ty := .array .long) (C := RX3) (T := TX3) (N := 7) hx hb hT iw_X3 tyX3 tyX3_ok nmX3 hown hK.1 hP hD hS 0 rfl rfl 4 (by decide) (hT _ tb_500) (fun _ h9 => h9) rfl (by decide +kernel) rfl rfl (Nat.le_of_ble_eq_true rfl) dX3_init_46 (fun H locs hP hD hS => ?_)
  obtain ⟨hP, hD⟩ : PD G A [(h0, .inr (3, [.ref q85, .ref q86, .ref q87, .ref q88, .ref q89, .null, .int 0])), (q85, .inl (cy 1, 256, .inl (fun _ => 0))), (q86, .inl (cy 1, 256, .inl (fun _ => 0))), (q87, .inl (cy 1, 256, .inl (fun _ => 0))), (q88, .inl (cy 1, 256, .inl (fun _ => 0))), (q89, .inl (cy 2, 256, .inr (.inl (fun _ => 0))))] H := ⟨hP, hD⟩
  refine lv_aload_n hx hb dX3_init_49 rfl (lv_at hl 0 rfl) ?_
  refine lv_sipush (v := 512) hx hb dX3_init_50 (by decide) ?_
  refine kn_a (atype := .int) (ty := .int) (N' := 512) (a0 := (512, .inl (fun _ => 0))) hx hb (hT _ tb_182) rfl hK hP hD hS hA 1 rfl (fun _ => rfl) (by decide) (by decide) (by decide) (Nat.le_of_ble_eq_true rfl) (Nat.le_of_ble_eq_true rfl) dX3_init_53 (fun q90 H hP hD hS => ?_)
  obtain ⟨hP, hD⟩ : PD G A [(h0, .inr (3, [.ref q85, .ref q86, .ref q87, .ref q88, .ref q89, .null, .int 0])), (q85, .inl (cy 1, 256, .inl (fun _ => 0))), (q86, .inl (cy 1, 256, .inl (fun _ => 0))), (q87, .inl (cy 1, 256, .inl (fun _ => 0))), (q88, .inl (cy 1, 256, .inl (fun _ => 0))), (q89, .inl (cy 2, 256, .inr (.inl (fun _ => 0)))), (q90, .inl (cy 1, 512, .inl (fun _ => 0)))] H := ⟨hP, hD⟩
  refine W.widen (k := 6) (n := 1792) (Nat.le_of_ble_eq_true rfl) (Nat.le_of_ble_eq_true rfl) ?_
  refine va_put (D := G) (ci := 3) (v := .ref q90) (ty := .array .int) (C := RX3) (T := TX3) (N := 7) hx hb hT iw_X3 tyX3 tyX3_ok nmX3 hown hK.1 hP hD hS 0 rfl rfl 5 (by decide) (hT _ tb_502) (fun _ h9 => h9) rfl (by decide +kernel) rfl rfl (Nat.le_of_ble_eq_true rfl) dX3_init_55 (fun H locs hP hD hS => ?_)
  obtain ⟨hP, hD⟩ : PD G A [(h0, .inr (3, [.ref q85, .ref q86, .ref q87, .ref q88, .ref q89, .ref q90, .int 0])), (q85, .inl (cy 1, 256, .inl (fun _ => 0))), (q86, .inl (cy 1, 256, .inl (fun _ => 0))), (q87, .inl (cy 1, 256, .inl (fun _ => 0))), (q88, .inl (cy 1, 256, .inl (fun _ => 0))), (q89, .inl (cy 2, 256, .inr (.inl (fun _ => 0)))), (q90, .inl (cy 1, 512, .inl (fun _ => 0)))] H := ⟨hP, hD⟩
  exact kr_v hx hb hr hlocks hP hD hS (u := ((q85, q86, q87, q88, q89, q90) : Nat × Nat × Nat × Nat × Nat × Nat)) trivial [0, 1, 2, 3, 4, 5, 6] rfl (by decide) (Nat.le_of_ble_eq_true rfl) (Nat.le_of_ble_eq_true rfl) dX3_init_58

set_option maxRecDepth 100000 in
set_option maxHeartbeats 4000000 in
theorem cX6_init_0 (l : Launch) (G : va_G) (cy : Nat → ClassId) (ev : Ev) (sz : Nat) (h0 : Nat)  : Met l yX6_init (WS yX6_init cX6_init 1 none) { frames := 1, cells := 3, slots := 49, locals := 20 } (PB [.ref h0] sz G cy ev [(h0, .inr (6, [.null, .null, .null, .int 0, .long 0, .long 0]))]) (QBv (S := Nat × Nat × Nat) (fun _ : Nat × Nat × Nat => True) G (fun u => [(h0, .inr (6, [.ref u.2.1, .ref u.2.2, .ref u.1, .int 0, .long 0, .long 0])), (u.1, .inl (cy 2, 17, .inr (.inl (fun _ => 0))))]) (va_A [(h0, .inr (6, [.null, .null, .null, .int 0, .long 0, .long 0]))] sz)) 3 49 (va_A [(h0, .inr (6, [.null, .null, .null, .int 0, .long 0, .long 0]))] sz) := by
  refine met_of (y := yX6_init) (L := 1) (av := [.ref h0]) (Qc := fun A => QBv (S := Nat × Nat × Nat) (fun _ : Nat × Nat × Nat => True) G (fun u => [(h0, .inr (6, [.ref u.2.1, .ref u.2.2, .ref u.1, .int 0, .long 0, .long 0])), (u.1, .inl (cy 2, 17, .inr (.inl (fun _ => 0))))]) A) (by decide) (Nat.le_of_ble_eq_true rfl) ?_
  intro p e s m below meth c hx hb hr hml hown hT hlocks hin hK A hA hE hP hD hS ls hl
  have hown : s.vm.findClass "LieClock$Sets" = some m.cls := hown
  have hl : lv_has ls 1 [(0, .ref h0)] := hl
  refine lv_aload_n hx hb dX6_init_0 rfl (lv_at hl 0 rfl) ?_
  refine W.objInit hx hb hown (hT _ tb_527) (hT _ tb_134) (hT _ tb_135) rfl (by rw [hml]; exact hl.1) rfl dX6_init_1 (Nat.le_of_ble_eq_true rfl) (Nat.le_of_ble_eq_true rfl) ?_
  refine W.eq (g2 := F0 m 4 ls []) rfl ?_
  refine lv_aload_n hx hb dX6_init_4 rfl (lv_at hl 0 rfl) ?_
  refine lv_bipush (v := 16) hx hb dX6_init_5 (by decide) ?_
  refine kn_a (atype := .long) (ty := .long) (N' := 16) (a0 := (16, .inr (.inl (fun _ => 0)))) hx hb (hT _ tb_181) rfl hK hP hD hS hA 2 rfl (fun _ => rfl) (by decide) (by decide) (by decide) (Nat.le_of_ble_eq_true rfl) (Nat.le_of_ble_eq_true rfl) dX6_init_7 (fun q97 H hP hD hS => ?_)
  obtain ⟨hP, hD⟩ : PD G A [(h0, .inr (6, [.null, .null, .null, .int 0, .long 0, .long 0])), (q97, .inl (cy 2, 16, .inr (.inl (fun _ => 0))))] H := ⟨hP, hD⟩
  refine W.widen (k := 1) (n := 16) (Nat.le_of_ble_eq_true rfl) (Nat.le_of_ble_eq_true rfl) ?_
  refine va_putF (D := G) (ci := 6) (v := .ref q97) (ty := .array .long) (C := RX6) (T := TX6) (N := 6) hx hb hT iw_X6 tyX6 tyX6_ok nmX6 hown hK.1 hP hD hS 0 rfl rfl 0 (by decide) (hT _ tb_528) (fun _ h9 => h9) rfl hin rfl (by decide +kernel) rfl rfl (Nat.le_of_ble_eq_true rfl) dX6_init_9 (fun H locs hP hD hS => ?_)
  obtain ⟨hP, hD⟩ : PD G A [(h0, .inr (6, [.ref q97, .null, .null, .int 0, .long 0, .long 0]))] H := ⟨hP.sub [0] rfl, hD.sub [0] (by decide) rfl⟩
  refine lv_aload_n hx hb dX6_init_12 rfl (lv_at hl 0 rfl) ?_
  refine lv_bipush (v := 16) hx hb dX6_init_13 (by decide) ?_
  refine kn_a (atype := .int) (ty := .int) (N' := 16) (a0 := (16, .inl (fun _ => 0))) hx hb (hT _ tb_182) rfl hK hP hD hS hA 1 rfl (fun _ => rfl) (by decide) (by decide) (by decide) (Nat.le_of_ble_eq_true rfl) (Nat.le_of_ble_eq_true rfl) dX6_init_15 (fun q98 H hP hD hS => ?_)
  obtain ⟨hP, hD⟩ : PD G A [(h0, .inr (6, [.ref q97, .null, .null, .int 0, .long 0, .long 0])), (q98, .inl (cy 1, 16, .inl (fun _ => 0)))] H := ⟨hP, hD⟩
  refine W.widen (k := 2) (n := 32) (Nat.le_of_ble_eq_true rfl) (Nat.le_of_ble_eq_true rfl) ?_
  refine va_putF (D := G) (ci := 6) (v := .ref q98) (ty := .array .int) (C := RX6) (T := TX6) (N := 6) hx hb hT iw_X6 tyX6 tyX6_ok nmX6 hown hK.1 hP hD hS 0 rfl rfl 1 (by decide) (hT _ tb_529) (fun _ h9 => h9) rfl hin rfl (by decide +kernel) rfl rfl (Nat.le_of_ble_eq_true rfl) dX6_init_17 (fun H locs hP hD hS => ?_)
  obtain ⟨hP, hD⟩ : PD G A [(h0, .inr (6, [.ref q97, .ref q98, .null, .int 0, .long 0, .long 0]))] H := ⟨hP.sub [0] rfl, hD.sub [0] (by decide) rfl⟩
  refine lv_aload_n hx hb dX6_init_20 rfl (lv_at hl 0 rfl) ?_
  refine lv_bipush (v := 17) hx hb dX6_init_21 (by decide) ?_
  refine kn_a (atype := .long) (ty := .long) (N' := 17) (a0 := (17, .inr (.inl (fun _ => 0)))) hx hb (hT _ tb_181) rfl hK hP hD hS hA 2 rfl (fun _ => rfl) (by decide) (by decide) (by decide) (Nat.le_of_ble_eq_true rfl) (Nat.le_of_ble_eq_true rfl) dX6_init_23 (fun q99 H hP hD hS => ?_)
  obtain ⟨hP, hD⟩ : PD G A [(h0, .inr (6, [.ref q97, .ref q98, .null, .int 0, .long 0, .long 0])), (q99, .inl (cy 2, 17, .inr (.inl (fun _ => 0))))] H := ⟨hP, hD⟩
  refine W.widen (k := 3) (n := 49) (Nat.le_of_ble_eq_true rfl) (Nat.le_of_ble_eq_true rfl) ?_
  refine va_putF (D := G) (ci := 6) (v := .ref q99) (ty := .array .long) (C := RX6) (T := TX6) (N := 6) hx hb hT iw_X6 tyX6 tyX6_ok nmX6 hown hK.1 hP hD hS 0 rfl rfl 2 (by decide) (hT _ tb_530) (fun _ h9 => h9) rfl hin rfl (by decide +kernel) rfl rfl (Nat.le_of_ble_eq_true rfl) dX6_init_25 (fun H locs hP hD hS => ?_)
  obtain ⟨hP, hD⟩ : PD G A [(h0, .inr (6, [.ref q97, .ref q98, .ref q99, .int 0, .long 0, .long 0])), (q99, .inl (cy 2, 17, .inr (.inl (fun _ => 0))))] H := ⟨hP, hD⟩
  exact kr_v hx hb hr hlocks hP hD hS (u := ((q99, q97, q98) : Nat × Nat × Nat)) trivial [0, 1] rfl (by decide) (Nat.le_of_ble_eq_true rfl) (Nat.le_of_ble_eq_true rfl) dX6_init_28

set_option maxRecDepth 100000 in
set_option maxHeartbeats 4000000 in
theorem cJ0_coder_7d493_0 (l : Launch) (G : va_G) (cy : Nat → ClassId) (ev : Ev) (sz : Nat)   : Met l yJ0_coder_7d493 (WS yJ0_coder_7d493 cJ0_coder_7d493 1 (some .byte)) { frames := 0, cells := 0, slots := 0, locals := 0 } (PB [.ref (ev.1 0)] sz G cy ev []) (QBi (S := Unit) (fun (r : Int32) (u : Unit) => r = 0) G (fun u => []) (va_A [] sz)) 0 0 (va_A [] sz) := by
  refine met_of (y := yJ0_coder_7d493) (L := 1) (av := [.ref (ev.1 0)]) (Qc := fun A => QBi (S := Unit) (fun (r : Int32) (u : Unit) => r = 0) G (fun u => []) A) (by decide) (Nat.le_of_ble_eq_true rfl) ?_
  intro p e s m below meth c hx hb hr hml hown hT hlocks hin hK A hA hE hP hD hS ls hl
  have hown : s.vm.findClass "java/lang/String" = some m.cls := hown
  have hl : lv_has ls 1 [(0, .ref (ev.1 0))] := hl
  refine va_gets hx hb hE.2.1 hS hown (hT _ tb_309) (fun _ h9 => h9) dJ0_coder_7d493_0 ?_
  refine lv_if_eq (tgt := 13) hx hb dJ0_coder_7d493_3 (by decide) (fun c => absurd c (by decide)) (fun _ => ?_)
  refine lv_aload_n hx hb dJ0_coder_7d493_6 rfl (lv_at hl 0 rfl) ?_
  refine vk_getf hx hb ((hE.1.1 0 (by decide)).2.1) hS hown (hT _ tb_1963) (fun _ h9 => h9) dJ0_coder_7d493_7 ?_
  refine lv_goto (tgt := 14) hx hb dJ0_coder_7d493_10 (by decide) ?_
  exact kr_i hx hb hr hlocks hP hD hS (hv := rfl) (u := (() : Unit)) rfl [] rfl (by decide) (Nat.le_of_ble_eq_true rfl) (Nat.le_of_ble_eq_true rfl) dJ0_coder_7d493_14

set_option maxRecDepth 100000 in
set_option maxHeartbeats 4000000 in
theorem cJ0_length_8abf5_0 (l : Launch) (G : va_G) (cy : Nat → ClassId) (ev : Ev) (sz : Nat)   : Met l yJ0_length_8abf5 (WS yJ0_length_8abf5 cJ0_length_8abf5 1 (some .int)) { frames := 1, cells := 0, slots := 0, locals := 20 } (PB [.ref (ev.1 0)] sz G cy ev []) (QBi (S := Unit) (fun (r : Int32) (u : Unit) => r = 91) G (fun u => []) (va_A [] sz)) 0 0 (va_A [] sz) := by
  refine met_of (y := yJ0_length_8abf5) (L := 1) (av := [.ref (ev.1 0)]) (Qc := fun A => QBi (S := Unit) (fun (r : Int32) (u : Unit) => r = 91) G (fun u => []) A) (by decide) (Nat.le_of_ble_eq_true rfl) ?_
  intro p e s m below meth c hx hb hr hml hown hT hlocks hin hK A hA hE hP hD hS ls hl
  have hown : s.vm.findClass "java/lang/String" = some m.cls := hown
  have hl : lv_has ls 1 [(0, .ref (ev.1 0))] := hl
  refine lv_aload_n hx hb dJ0_length_8abf5_0 rfl (lv_at hl 0 rfl) ?_
  refine vk_getf hx hb ((hE.1.1 0 (by decide)).2.2.1) hS hown (hT _ tb_1962) (fun _ h9 => h9) dJ0_length_8abf5_1 ?_
  refine va_tlen (v := 91) hx hb ((hE.1.1 0 (by decide)).2.2.2) hS rfl dJ0_length_8abf5_4 ?_
  refine lv_aload_n hx hb dJ0_length_8abf5_5 rfl (lv_at hl 0 rfl) ?_
  refine kc_i (W1 := []) (wr := []) [] [] rfl rfl (by decide) (by decide) hP hD hS hA (va_runV (As := []) (rest := [.int 91]) ⟨hx, hb, hml, hown, hT⟩ (cJ0_coder_7d493_0 l G cy ev _ ) (cwV 0 hT (good_V tb_308 tb_305 tb_306 tb_307 tb_111) rfl rfl rfl (by decide +kernel) ⟨Nat.le_of_ble_eq_true rfl, Nat.le_of_ble_eq_true rfl⟩) (PB.preK (i := 0) hK hE hS hA hP hD [] rfl (by decide) (by decide)) rfl rfl hl.1 rfl (lv_room (Nat.le_of_ble_eq_true rfl)) dJ0_length_8abf5_6 ⟨Nat.le_of_ble_eq_true rfl, Nat.le_of_ble_eq_true rfl⟩) (fun r u H locs hw hP hD hS => ?_)
  obtain rfl : r = 0 := hw
  obtain ⟨hP, hD⟩ : PD G A [] H := ⟨hP, hD⟩
  refine kx_ishr (v := 91) hx hb dJ0_length_8abf5_9 (by decide) ?_
  exact kr_i hx hb hr hlocks hP hD hS (hv := rfl) (u := (() : Unit)) rfl [] rfl (by decide) (Nat.le_of_ble_eq_true rfl) (Nat.le_of_ble_eq_true rfl) dJ0_length_8abf5_10

set_option maxRecDepth 100000 in
set_option maxHeartbeats 4000000 in
theorem cJ0_isLatin1_aae02_0 (l : Launch) (G : va_G) (cy : Nat → ClassId) (ev : Ev) (sz : Nat)   : Met l yJ0_isLatin1_aae02 (WS yJ0_isLatin1_aae02 cJ0_isLatin1_aae02 1 (some .boolean)) { frames := 0, cells := 0, slots := 0, locals := 0 } (PB [.ref (ev.1 0)] sz G cy ev []) (QBi (S := Unit) (fun (r : Int32) (u : Unit) => r = 1) G (fun u => []) (va_A [] sz)) 0 0 (va_A [] sz) := by
  refine met_of (y := yJ0_isLatin1_aae02) (L := 1) (av := [.ref (ev.1 0)]) (Qc := fun A => QBi (S := Unit) (fun (r : Int32) (u : Unit) => r = 1) G (fun u => []) A) (by decide) (Nat.le_of_ble_eq_true rfl) ?_
  intro p e s m below meth c hx hb hr hml hown hT hlocks hin hK A hA hE hP hD hS ls hl
  have hown : s.vm.findClass "java/lang/String" = some m.cls := hown
  have hl : lv_has ls 1 [(0, .ref (ev.1 0))] := hl
  refine va_gets hx hb hE.2.1 hS hown (hT _ tb_309) (fun _ h9 => h9) dJ0_isLatin1_aae02_0 ?_
  refine lv_if_eq (tgt := 17) hx hb dJ0_isLatin1_aae02_3 (by decide) (fun c => absurd c (by decide)) (fun _ => ?_)
  refine lv_aload_n hx hb dJ0_isLatin1_aae02_6 rfl (lv_at hl 0 rfl) ?_
  refine vk_getf hx hb ((hE.1.1 0 (by decide)).2.1) hS hown (hT _ tb_1963) (fun _ h9 => h9) dJ0_isLatin1_aae02_7 ?_
  refine lv_if_ne (tgt := 17) hx hb dJ0_isLatin1_aae02_10 (by decide) (fun c => absurd (by decide) c) (fun _ => ?_)
  refine lv_iconst (v := 1) hx hb dJ0_isLatin1_aae02_13 (by decide) ?_
  refine lv_goto (tgt := 18) hx hb dJ0_isLatin1_aae02_14 (by decide) ?_
  exact kr_i hx hb hr hlocks hP hD hS (hv := rfl) (u := (() : Unit)) rfl [] rfl (by decide) (Nat.le_of_ble_eq_true rfl) (Nat.le_of_ble_eq_true rfl) dJ0_isLatin1_aae02_18

set_option maxRecDepth 100000 in
set_option maxHeartbeats 4000000 in
theorem cJ3_checkIndex_8e157_0 (l : Launch) (G : va_G) (cy : Nat → ClassId) (ev : Ev) (sz : Nat) (p0 : Int32) (hp0 : 0 ≤ p0.toInt ∧ p0.toInt ≤ 90) : Met l yJ3_checkIndex_8e157 (WS yJ3_checkIndex_8e157 cJ3_checkIndex_8e157 3 (some .int)) { frames := 0, cells := 0, slots := 0, locals := 0 } (PB [.int p0, .int 91, .null] sz G cy ev []) (QBi (S := Unit) (fun (r : Int32) (u : Unit) => r = p0) G (fun u => []) (va_A [] sz)) 0 0 (va_A [] sz) := by
  refine met_of (y := yJ3_checkIndex_8e157) (L := 3) (av := [.int p0, .int 91, .null]) (Qc := fun A => QBi (S := Unit) (fun (r : Int32) (u : Unit) => r = p0) G (fun u => []) A) (by decide) (Nat.le_of_ble_eq_true rfl) ?_
  intro p e s m below meth c hx hb hr hml hown hT hlocks hin hK A hA hE hP hD hS ls hl
  have hown : s.vm.findClass "jdk/internal/util/Preconditions" = some m.cls := hown
  have hl : lv_has ls 3 [(0, .int p0), (1, .int 91), (2, .null)] := hl
  refine lv_iload_n hx hb dJ3_checkIndex_8e157_0 rfl (lv_at hl 0 rfl) ?_
  refine lv_if_lt (tgt := 9) hx hb dJ3_checkIndex_8e157_1 (by decide) (fun c => absurd c (bx_nlt hp0 (by decide))) (fun _ => ?_)
  refine lv_iload_n hx hb dJ3_checkIndex_8e157_4 rfl (lv_at hl 0 rfl) ?_
  refine lv_iload_n hx hb dJ3_checkIndex_8e157_5 rfl (lv_at hl 1 rfl) ?_
  refine lv_icmp_lt (tgt := 16) hx hb dJ3_checkIndex_8e157_6 (by decide) (fun _ => ?_) (fun c => absurd (bx_lt hp0 (by decide)) c)
  refine lv_iload_n hx hb dJ3_checkIndex_8e157_16 rfl (lv_at hl 0 rfl) ?_
  exact kr_i hx hb hr hlocks hP hD hS (hv := rfl) (u := (() : Unit)) rfl [] rfl (by decide) (Nat.le_of_ble_eq_true rfl) (Nat.le_of_ble_eq_true rfl) dJ3_checkIndex_8e157_17

set_option maxRecDepth 100000 in
set_option maxHeartbeats 4000000 in
theorem cJ3_checkIndex_8e157_1 (l : Launch) (G : va_G) (cy : Nat → ClassId) (ev : Ev) (sz : Nat) (p0 : Int32) (h0 : Nat) (hp0 : 0 ≤ p0.toInt ∧ p0.toInt ≤ 90) : Met l yJ3_checkIndex_8e157 (WS yJ3_checkIndex_8e157 cJ3_checkIndex_8e157 3 (some .int)) { frames := 0, cells := 0, slots := 0, locals := 0 } (PB [.int p0, .int 91, .ref h0] sz G cy ev []) (QBi (S := Unit) (fun (r : Int32) (u : Unit) => r = p0) G (fun u => []) (va_A [] sz)) 0 0 (va_A [] sz) := by
  refine met_of (y := yJ3_checkIndex_8e157) (L := 3) (av := [.int p0, .int 91, .ref h0]) (Qc := fun A => QBi (S := Unit) (fun (r : Int32) (u : Unit) => r = p0) G (fun u => []) A) (by decide) (Nat.le_of_ble_eq_true rfl) ?_
  intro p e s m below meth c hx hb hr hml hown hT hlocks hin hK A hA hE hP hD hS ls hl
  have hown : s.vm.findClass "jdk/internal/util/Preconditions" = some m.cls := hown
  have hl : lv_has ls 3 [(0, .int p0), (1, .int 91), (2, .ref h0)] := hl
  refine lv_iload_n hx hb dJ3_checkIndex_8e157_0 rfl (lv_at hl 0 rfl) ?_
  refine lv_if_lt (tgt := 9) hx hb dJ3_checkIndex_8e157_1 (by decide) (fun c => absurd c (bx_nlt hp0 (by decide))) (fun _ => ?_)
  refine lv_iload_n hx hb dJ3_checkIndex_8e157_4 rfl (lv_at hl 0 rfl) ?_
  refine lv_iload_n hx hb dJ3_checkIndex_8e157_5 rfl (lv_at hl 1 rfl) ?_
  refine lv_icmp_lt (tgt := 16) hx hb dJ3_checkIndex_8e157_6 (by decide) (fun _ => ?_) (fun c => absurd (bx_lt hp0 (by decide)) c)
  refine lv_iload_n hx hb dJ3_checkIndex_8e157_16 rfl (lv_at hl 0 rfl) ?_
  exact kr_i hx hb hr hlocks hP hD hS (hv := rfl) (u := (() : Unit)) rfl [] rfl (by decide) (Nat.le_of_ble_eq_true rfl) (Nat.le_of_ble_eq_true rfl) dJ3_checkIndex_8e157_17

set_option maxRecDepth 100000 in
set_option maxHeartbeats 4000000 in
theorem cJ0_checkIndex_df160_0 (l : Launch) (G : va_G) (cy : Nat → ClassId) (ev : Ev) (sz : Nat) (p0 : Int32) (hp0 : 0 ≤ p0.toInt ∧ p0.toInt ≤ 90) : Met l yJ0_checkIndex_df160 (WS yJ0_checkIndex_df160 cJ0_checkIndex_df160 2 none) { frames := 1, cells := 0, slots := 0, locals := 22 } (PB [.int p0, .int 91] sz G cy ev []) (QBv (S := Unit) (fun _ : Unit => True) G (fun u => []) (va_A [] sz)) 0 0 (va_A [] sz) := by
  refine met_of (y := yJ0_checkIndex_df160) (L := 2) (av := [.int p0, .int 91]) (Qc := fun A => QBv (S := Unit) (fun _ : Unit => True) G (fun u => []) A) (by decide) (Nat.le_of_ble_eq_true rfl) ?_
  intro p e s m below meth c hx hb hr hml hown hT hlocks hin hK A hA hE hP hD hS ls hl
  have hown : s.vm.findClass "java/lang/String" = some m.cls := hown
  have hl : lv_has ls 2 [(0, .int p0), (1, .int 91)] := hl
  refine lv_iload_n hx hb dJ0_checkIndex_df160_0 rfl (lv_at hl 0 rfl) ?_
  refine lv_iload_n hx hb dJ0_checkIndex_df160_1 rfl (lv_at hl 1 rfl) ?_
  rcases hE.2.2.1 with hZ | ⟨tZ, hZ⟩
  · refine va_gets hx hb hZ hS hown (hT _ tb_325) (fun _ h9 => h9) dJ0_checkIndex_df160_2 ?_
    refine kc_i (W1 := []) (wr := []) [] [] rfl rfl (by decide) (by decide) hP hD hS hA (va_runS (As := [.int p0, .int 91, .null]) (rest := []) ⟨hx, hb, hml, hown, hT⟩ (cJ3_checkIndex_8e157_0 l G cy ev _ p0 hp0) (va_cwS 3 hT (good_S tb_329 tb_327 tb_328 tb_113) rfl rfl rfl (by decide +kernel) ⟨Nat.le_of_ble_eq_true rfl, Nat.le_of_ble_eq_true rfl⟩) (PB.preS hK hE hS hA hP hD [] rfl (by decide)) rfl rfl hl.1 rfl (lv_room (Nat.le_of_ble_eq_true rfl)) dJ0_checkIndex_df160_5 ⟨Nat.le_of_ble_eq_true rfl, Nat.le_of_ble_eq_true rfl⟩) (fun r u H locs hw hP hD hS => ?_)
    obtain rfl : r = p0 := hw
    obtain ⟨hP, hD⟩ : PD G A [] H := ⟨hP, hD⟩
    refine lv_pop hx hb dJ0_checkIndex_df160_8 rfl ?_
    exact kr_v hx hb hr hlocks hP hD hS (u := (() : Unit)) trivial [] rfl (by decide) (Nat.le_of_ble_eq_true rfl) (Nat.le_of_ble_eq_true rfl) dJ0_checkIndex_df160_9
  · refine va_gets hx hb hZ hS hown (hT _ tb_325) (fun _ h9 => h9) dJ0_checkIndex_df160_2 ?_
    refine kc_i (W1 := []) (wr := []) [] [] rfl rfl (by decide) (by decide) hP hD hS hA (va_runS (As := [.int p0, .int 91, .ref tZ]) (rest := []) ⟨hx, hb, hml, hown, hT⟩ (cJ3_checkIndex_8e157_1 l G cy ev _ p0 tZ hp0) (va_cwS 3 hT (good_S tb_329 tb_327 tb_328 tb_113) rfl rfl rfl (by decide +kernel) ⟨Nat.le_of_ble_eq_true rfl, Nat.le_of_ble_eq_true rfl⟩) (PB.preS hK hE hS hA hP hD [] rfl (by decide)) rfl rfl hl.1 rfl (lv_room (Nat.le_of_ble_eq_true rfl)) dJ0_checkIndex_df160_5 ⟨Nat.le_of_ble_eq_true rfl, Nat.le_of_ble_eq_true rfl⟩) (fun r u H locs hw hP hD hS => ?_)
    obtain rfl : r = p0 := hw
    obtain ⟨hP, hD⟩ : PD G A [] H := ⟨hP, hD⟩
    refine lv_pop hx hb dJ0_checkIndex_df160_8 rfl ?_
    exact kr_v hx hb hr hlocks hP hD hS (u := (() : Unit)) trivial [] rfl (by decide) (Nat.le_of_ble_eq_true rfl) (Nat.le_of_ble_eq_true rfl) dJ0_checkIndex_df160_9

set_option maxRecDepth 100000 in
set_option maxHeartbeats 4000000 in
theorem cJ1_charAt_3b067_0 (l : Launch) (G : va_G) (cy : Nat → ClassId) (ev : Ev) (sz : Nat) (p0 : Int32) (hp0 : 0 ≤ p0.toInt ∧ p0.toInt ≤ 90) : Met l yJ1_charAt_3b067 (WS yJ1_charAt_3b067 cJ1_charAt_3b067 2 (some .char)) { frames := 2, cells := 0, slots := 0, locals := 43 } (PB [.ref (ev.2 0), .int p0] sz G cy ev []) (QBi (S := Unit) (fun (r : Int32) (u : Unit) => r = (((((bytS.getD 0 []).getD (p0 : Int32).toNatClampNeg 0) &&& 255)).toUInt32 % 65536).toInt32) G (fun u => []) (va_A [] sz)) 0 0 (va_A [] sz) := by
  refine met_of (y := yJ1_charAt_3b067) (L := 2) (av := [.ref (ev.2 0), .int p0]) (Qc := fun A => QBi (S := Unit) (fun (r : Int32) (u : Unit) => r = (((((bytS.getD 0 []).getD (p0 : Int32).toNatClampNeg 0) &&& 255)).toUInt32 % 65536).toInt32) G (fun u => []) A) (by decide) (Nat.le_of_ble_eq_true rfl) ?_
  intro p e s m below meth c hx hb hr hml hown hT hlocks hin hK A hA hE hP hD hS ls hl
  have hown : s.vm.findClass "java/lang/StringLatin1" = some m.cls := hown
  have hl : lv_has ls 2 [(0, .ref (ev.2 0)), (1, .int p0)] := hl
  refine lv_iload_n hx hb dJ1_charAt_3b067_0 rfl (lv_at hl 1 rfl) ?_
  refine lv_aload_n hx hb dJ1_charAt_3b067_1 rfl (lv_at hl 0 rfl) ?_
  refine va_tlen (v := 91) hx hb ((hE.1.1 0 (by decide)).2.2.2) hS rfl dJ1_charAt_3b067_2 ?_
  refine kc_v (W1 := []) (wr := []) [] [] rfl rfl (by decide) (by decide) hP hD hS hA (va_runS (As := [.int p0, .int 91]) (rest := []) ⟨hx, hb, hml, hown, hT⟩ (cJ0_checkIndex_df160_0 l G cy ev _ p0 hp0) (va_cwS 2 hT (good_S tb_324 tb_322 tb_323 tb_111) rfl rfl rfl (by decide +kernel) ⟨Nat.le_of_ble_eq_true rfl, Nat.le_of_ble_eq_true rfl⟩) (PB.preS hK hE hS hA hP hD [] rfl (by decide)) rfl rfl hl.1 rfl (lv_room (Nat.le_of_ble_eq_true rfl)) dJ1_charAt_3b067_3 ⟨Nat.le_of_ble_eq_true rfl, Nat.le_of_ble_eq_true rfl⟩) (fun u H locs hw hP hD hS => ?_)
  obtain ⟨hP, hD⟩ : PD G A [] H := ⟨hP, hD⟩
  refine lv_aload_n hx hb dJ1_charAt_3b067_6 rfl (lv_at hl 0 rfl) ?_
  refine lv_iload_n hx hb dJ1_charAt_3b067_7 rfl (lv_at hl 1 rfl) ?_
  refine va_tb (v := .int ((bytS.getD 0 []).getD (p0 : Int32).toNatClampNeg 0)) hx hb ((hE.1.1 0 (by decide)).2.2.2) hS (show vp_in p0 91 from (vp_in_iff.mpr (by have := hp0; omega))) rfl dJ1_charAt_3b067_8 ?_
  refine lv_sipush (v := 255) hx hb dJ1_charAt_3b067_9 (by decide) ?_
  refine kx_iand (v := (((bytS.getD 0 []).getD (p0 : Int32).toNatClampNeg 0) &&& 255)) hx hb dJ1_charAt_3b067_12 rfl ?_
  refine lv_i2c (v := (((((bytS.getD 0 []).getD (p0 : Int32).toNatClampNeg 0) &&& 255)).toUInt32 % 65536).toInt32) hx hb dJ1_charAt_3b067_13 rfl ?_
  exact kr_i hx hb hr hlocks hP hD hS (hv := pk_nc _) (u := (() : Unit)) rfl [] rfl (by decide) (Nat.le_of_ble_eq_true rfl) (Nat.le_of_ble_eq_true rfl) dJ1_charAt_3b067_14

set_option maxRecDepth 100000 in
set_option maxHeartbeats 4000000 in
theorem cJ0_charAt_5068e_0 (l : Launch) (G : va_G) (cy : Nat → ClassId) (ev : Ev) (sz : Nat) (p0 : Int32) (hp0 : 0 ≤ p0.toInt ∧ p0.toInt ≤ 90) : Met l yJ0_charAt_5068e (WS yJ0_charAt_5068e cJ0_charAt_5068e 2 (some .char)) { frames := 3, cells := 0, slots := 0, locals := 64 } (PB [.ref (ev.1 0), .int p0] sz G cy ev []) (QBi (S := Unit) (fun (r : Int32) (u : Unit) => r = (((((bytS.getD 0 []).getD (p0 : Int32).toNatClampNeg 0) &&& 255)).toUInt32 % 65536).toInt32) G (fun u => []) (va_A [] sz)) 0 0 (va_A [] sz) := by
  refine met_of (y := yJ0_charAt_5068e) (L := 2) (av := [.ref (ev.1 0), .int p0]) (Qc := fun A => QBi (S := Unit) (fun (r : Int32) (u : Unit) => r = (((((bytS.getD 0 []).getD (p0 : Int32).toNatClampNeg 0) &&& 255)).toUInt32 % 65536).toInt32) G (fun u => []) A) (by decide) (Nat.le_of_ble_eq_true rfl) ?_
  intro p e s m below meth c hx hb hr hml hown hT hlocks hin hK A hA hE hP hD hS ls hl
  have hown : s.vm.findClass "java/lang/String" = some m.cls := hown
  have hl : lv_has ls 2 [(0, .ref (ev.1 0)), (1, .int p0)] := hl
  refine lv_aload_n hx hb dJ0_charAt_5068e_0 rfl (lv_at hl 0 rfl) ?_
  refine kc_i (W1 := []) (wr := []) [] [] rfl rfl (by decide) (by decide) hP hD hS hA (va_runV (As := []) (rest := []) ⟨hx, hb, hml, hown, hT⟩ (cJ0_isLatin1_aae02_0 l G cy ev _ ) (cwV 0 hT (good_V tb_318 tb_315 tb_316 tb_317 tb_111) rfl rfl rfl (by decide +kernel) ⟨Nat.le_of_ble_eq_true rfl, Nat.le_of_ble_eq_true rfl⟩) (PB.preK (i := 0) hK hE hS hA hP hD [] rfl (by decide) (by decide)) rfl rfl hl.1 rfl (lv_room (Nat.le_of_ble_eq_true rfl)) dJ0_charAt_5068e_1 ⟨Nat.le_of_ble_eq_true rfl, Nat.le_of_ble_eq_true rfl⟩) (fun r u H locs hw hP hD hS => ?_)
  obtain rfl : r = 1 := hw
  obtain ⟨hP, hD⟩ : PD G A [] H := ⟨hP, hD⟩
  refine lv_if_eq (tgt := 16) hx hb dJ0_charAt_5068e_4 (by decide) (fun c => absurd c (by decide)) (fun _ => ?_)
  refine lv_aload_n hx hb dJ0_charAt_5068e_7 rfl (lv_at hl 0 rfl) ?_
  refine vk_getf hx hb ((hE.1.1 0 (by decide)).2.2.1) hS hown (hT _ tb_1962) (fun _ h9 => h9) dJ0_charAt_5068e_8 ?_
  refine lv_iload_n hx hb dJ0_charAt_5068e_11 rfl (lv_at hl 1 rfl) ?_
  refine kc_i (W1 := []) (wr := []) [] [] rfl rfl (by decide) (by decide) hP hD hS hA (va_runS (As := [.ref (ev.2 0), .int p0]) (rest := []) ⟨hx, hb, hml, hown, hT⟩ (cJ1_charAt_3b067_0 l G cy ev _ p0 hp0) (va_cwS 2 hT (good_S tb_321 tb_319 tb_320 tb_112) rfl rfl rfl (by decide +kernel) ⟨Nat.le_of_ble_eq_true rfl, Nat.le_of_ble_eq_true rfl⟩) (PB.preS hK hE hS hA hP hD [] rfl (by decide)) rfl rfl hl.1 rfl (lv_room (Nat.le_of_ble_eq_true rfl)) dJ0_charAt_5068e_12 ⟨Nat.le_of_ble_eq_true rfl, Nat.le_of_ble_eq_true rfl⟩) (fun r u H locs hw hP hD hS => ?_)
  obtain rfl : r = (((((bytS.getD 0 []).getD (p0 : Int32).toNatClampNeg 0) &&& 255)).toUInt32 % 65536).toInt32 := hw
  obtain ⟨hP, hD⟩ : PD G A [] H := ⟨hP, hD⟩
  exact kr_i hx hb hr hlocks hP hD hS (hv := pk_nc _) (u := (() : Unit)) rfl [] rfl (by decide) (Nat.le_of_ble_eq_true rfl) (Nat.le_of_ble_eq_true rfl) dJ0_charAt_5068e_15

set_option maxRecDepth 100000 in
set_option maxHeartbeats 4000000 in
theorem cX9_withLetter_0 (l : Launch) (G : va_G) (cy : Nat → ClassId) (ev : Ev) (sz : Nat) (g0 : Int64) (p0 : Int32)  : Met l yX9_withLetter (WS yX9_withLetter cX9_withLetter 3 (some .long)) { frames := 0, cells := 0, slots := 0, locals := 0 } (PB [.long g0, .int p0] sz G cy ev []) (QBl (S := Unit) (fun (r : Int64) (u : Unit) => r = ((g0 * 32) + (((p0 - 97) + 1)).toInt64)) G (fun u => []) (va_A [] sz)) 0 0 (va_A [] sz) := by
  refine met_of (y := yX9_withLetter) (L := 3) (av := [.long g0, .int p0]) (Qc := fun A => QBl (S := Unit) (fun (r : Int64) (u : Unit) => r = ((g0 * 32) + (((p0 - 97) + 1)).toInt64)) G (fun u => []) A) (by decide) (Nat.le_of_ble_eq_true rfl) ?_
  intro p e s m below meth c hx hb hr hml hown hT hlocks hin hK A hA hE hP hD hS ls hl
  have hown : s.vm.findClass "LieClock$Tokens" = some m.cls := hown
  have hl : lv_has ls 3 [(0, .long g0), (2, .int p0)] := hl
  refine lv_lload_n hx hb dX9_withLetter_0 rfl (lv_at hl 0 rfl) ?_
  refine lv_ldc2 (v := 32) hx hb hown (hT _ tb_352) dX9_withLetter_1 ?_
  refine kx_lmul (v := (g0 * 32)) hx hb dX9_withLetter_4 rfl ?_
  refine lv_iload_n hx hb dX9_withLetter_5 rfl (lv_at hl 1 rfl) ?_
  refine lv_bipush (v := 97) hx hb dX9_withLetter_6 (by decide) ?_
  refine kx_isub (v := (p0 - 97)) hx hb dX9_withLetter_8 rfl ?_
  refine lv_iconst (v := 1) hx hb dX9_withLetter_9 (by decide) ?_
  refine kx_iadd (v := ((p0 - 97) + 1)) hx hb dX9_withLetter_10 rfl ?_
  refine lv_i2l (v := (((p0 - 97) + 1)).toInt64) hx hb dX9_withLetter_11 rfl ?_
  refine kx_ladd (v := ((g0 * 32) + (((p0 - 97) + 1)).toInt64)) hx hb dX9_withLetter_12 rfl ?_
  exact kr_l hx hb hr hlocks hP hD hS (u := (() : Unit)) rfl [] rfl (by decide) (Nat.le_of_ble_eq_true rfl) (Nat.le_of_ble_eq_true rfl) dX9_withLetter_13

set_option maxRecDepth 100000 in
set_option maxHeartbeats 4000000 in
theorem cX9_init_0 (l : Launch) (G : va_G) (cy : Nat → ClassId) (ev : Ev) (sz : Nat) (h0 : Nat)  : Met l yX9_init (WS yX9_init cX9_init 6 none) { frames := 4, cells := 4, slots := 1221, locals := 85 } (PB [.ref h0] sz G cy ev [(h0, .inr (9, [.null, .null, .null, .null, .int 0]))]) (QBv (S := Nat × Nat × Nat × Nat) (fun _ : Nat × Nat × Nat × Nat => True) G (fun u => [(h0, .inr (9, [.ref u.1, .ref u.2.1, .ref u.2.2.1, .ref u.2.2.2, .int 0])), (u.1, .inl (cy 1, 401, .inl (fun _ => 0))), (u.2.1, .inl (cy 1, 401, .inl (fun _ => 0))), (u.2.2.1, .inl (cy 2, 401, .inr (.inl (fun _ => 0))))]) (va_A [(h0, .inr (9, [.null, .null, .null, .null, .int 0]))] sz)) 4 1221 (va_A [(h0, .inr (9, [.null, .null, .null, .null, .int 0]))] sz) := by
  refine met_of (y := yX9_init) (L := 6) (av := [.ref h0]) (Qc := fun A => QBv (S := Nat × Nat × Nat × Nat) (fun _ : Nat × Nat × Nat × Nat => True) G (fun u => [(h0, .inr (9, [.ref u.1, .ref u.2.1, .ref u.2.2.1, .ref u.2.2.2, .int 0])), (u.1, .inl (cy 1, 401, .inl (fun _ => 0))), (u.2.1, .inl (cy 1, 401, .inl (fun _ => 0))), (u.2.2.1, .inl (cy 2, 401, .inr (.inl (fun _ => 0))))]) A) (by decide) (Nat.le_of_ble_eq_true rfl) ?_
  intro p e s m below meth c hx hb hr hml hown hT hlocks hin hK A hA hE hP hD hS ls hl
  have hown : s.vm.findClass "LieClock$Tokens" = some m.cls := hown
  have hl : lv_has ls 6 [(0, .ref h0)] := hl
  refine lv_aload_n hx hb dX9_init_0 rfl (lv_at hl 0 rfl) ?_
  refine W.objInit hx hb hown (hT _ tb_299) (hT _ tb_134) (hT _ tb_135) rfl (by rw [hml]; exact hl.1) rfl dX9_init_1 (Nat.le_of_ble_eq_true rfl) (Nat.le_of_ble_eq_true rfl) ?_
  refine W.eq (g2 := F0 m 4 ls []) rfl ?_
  refine lv_aload_n hx hb dX9_init_4 rfl (lv_at hl 0 rfl) ?_
  refine lv_sipush (v := 401) hx hb dX9_init_5 (by decide) ?_
  refine kn_a (atype := .int) (ty := .int) (N' := 401) (a0 := (401, .inl (fun _ => 0))) hx hb (hT _ tb_182) rfl hK hP hD hS hA 1 rfl (fun _ => rfl) (by decide) (by decide) (by decide) (Nat.le_of_ble_eq_true rfl) (Nat.le_of_ble_eq_true rfl) dX9_init_8 (fun q132 H hP hD hS => ?_)
  obtain ⟨hP, hD⟩ : PD G A [(h0, .inr (9, [.null, .null, .null, .null, .int 0])), (q132, .inl (cy 1, 401, .inl (fun _ => 0)))] H := ⟨hP, hD⟩
  refine W.widen (k := 1) (n := 401) (Nat.le_of_ble_eq_true rfl) (Nat.le_of_ble_eq_true rfl) ?_
  refine va_putF (D := G) (ci := 9) (v := .ref q132) (ty := .array .int) (C := RX9) (T := TX9) (N := 5) hx hb hT iw_X9 tyX9 tyX9_ok nmX9 hown hK.1 hP hD hS 0 rfl rfl 0 (by decide) (hT _ tb_353) (fun _ h9 => h9) rfl hin rfl (by decide +kernel) rfl rfl (Nat.le_of_ble_eq_true rfl) dX9_init_10 (fun H locs hP hD hS => ?_)
  obtain ⟨hP, hD⟩ : PD G A [(h0, .inr (9, [.ref q132, .null, .null, .null, .int 0])), (q132, .inl (cy 1, 401, .inl (fun _ => 0)))] H := ⟨hP, hD⟩
  refine lv_aload_n hx hb dX9_init_13 rfl (lv_at hl 0 rfl) ?_
  refine lv_sipush (v := 401) hx hb dX9_init_14 (by decide) ?_
  refine kn_a (atype := .int) (ty := .int) (N' := 401) (a0 := (401, .inl (fun _ => 0))) hx hb (hT _ tb_182) rfl hK hP hD hS hA 1 rfl (fun _ => rfl) (by decide) (by decide) (by decide) (Nat.le_of_ble_eq_true rfl) (Nat.le_of_ble_eq_true rfl) dX9_init_17 (fun q133 H hP hD hS => ?_)
  obtain ⟨hP, hD⟩ : PD G A [(h0, .inr (9, [.ref q132, .null, .null, .null, .int 0])), (q132, .inl (cy 1, 401, .inl (fun _ => 0))), (q133, .inl (cy 1, 401, .inl (fun _ => 0)))] H := ⟨hP, hD⟩
  refine W.widen (k := 2) (n := 802) (Nat.le_of_ble_eq_true rfl) (Nat.le_of_ble_eq_true rfl) ?_
  refine va_putF (D := G) (ci := 9) (v := .ref q133) (ty := .array .int) (C := RX9) (T := TX9) (N := 5) hx hb hT iw_X9 tyX9 tyX9_ok nmX9 hown hK.1 hP hD hS 0 rfl rfl 1 (by decide) (hT _ tb_355) (fun _ h9 => h9) rfl hin rfl (by decide +kernel) rfl rfl (Nat.le_of_ble_eq_true rfl) dX9_init_19 (fun H locs hP hD hS => ?_)
  obtain ⟨hP, hD⟩ : PD G A [(h0, .inr (9, [.ref q132, .ref q133, .null, .null, .int 0])), (q132, .inl (cy 1, 401, .inl (fun _ => 0))), (q133, .inl (cy 1, 401, .inl (fun _ => 0)))] H := ⟨hP, hD⟩
  refine lv_aload_n hx hb dX9_init_22 rfl (lv_at hl 0 rfl) ?_
  refine lv_sipush (v := 401) hx hb dX9_init_23 (by decide) ?_
  refine kn_a (atype := .long) (ty := .long) (N' := 401) (a0 := (401, .inr (.inl (fun _ => 0)))) hx hb (hT _ tb_181) rfl hK hP hD hS hA 2 rfl (fun _ => rfl) (by decide) (by decide) (by decide) (Nat.le_of_ble_eq_true rfl) (Nat.le_of_ble_eq_true rfl) dX9_init_26 (fun q134 H hP hD hS => ?_)
  obtain ⟨hP, hD⟩ : PD G A [(h0, .inr (9, [.ref q132, .ref q133, .null, .null, .int 0])), (q132, .inl (cy 1, 401, .inl (fun _ => 0))), (q133, .inl (cy 1, 401, .inl (fun _ => 0))), (q134, .inl (cy 2, 401, .inr (.inl (fun _ => 0))))] H := ⟨hP, hD⟩
  refine W.widen (k := 3) (n := 1203) (Nat.le_of_ble_eq_true rfl) (Nat.le_of_ble_eq_true rfl) ?_
  refine va_putF (D := G) (ci := 9) (v := .ref q134) (ty := .array .long) (C := RX9) (T := TX9) (N := 5) hx hb hT iw_X9 tyX9 tyX9_ok nmX9 hown hK.1 hP hD hS 0 rfl rfl 2 (by decide) (hT _ tb_356) (fun _ h9 => h9) rfl hin rfl (by decide +kernel) rfl rfl (Nat.le_of_ble_eq_true rfl) dX9_init_28 (fun H locs hP hD hS => ?_)
  obtain ⟨hP, hD⟩ : PD G A [(h0, .inr (9, [.ref q132, .ref q133, .ref q134, .null, .int 0])), (q132, .inl (cy 1, 401, .inl (fun _ => 0))), (q133, .inl (cy 1, 401, .inl (fun _ => 0))), (q134, .inl (cy 2, 401, .inr (.inl (fun _ => 0))))] H := ⟨hP, hD⟩
  refine lv_aload_n hx hb dX9_init_31 rfl (lv_at hl 0 rfl) ?_
  refine lv_bipush (v := 18) hx hb dX9_init_32 (by decide) ?_
  refine kn_a (atype := .long) (ty := .long) (N' := 18) (a0 := (18, .inr (.inl (fun _ => 0)))) hx hb (hT _ tb_181) rfl hK hP hD hS hA 2 rfl (fun _ => rfl) (by decide) (by decide) (by decide) (Nat.le_of_ble_eq_true rfl) (Nat.le_of_ble_eq_true rfl) dX9_init_34 (fun q135 H hP hD hS => ?_)
  obtain ⟨hP, hD⟩ : PD G A [(h0, .inr (9, [.ref q132, .ref q133, .ref q134, .null, .int 0])), (q132, .inl (cy 1, 401, .inl (fun _ => 0))), (q133, .inl (cy 1, 401, .inl (fun _ => 0))), (q134, .inl (cy 2, 401, .inr (.inl (fun _ => 0)))), (q135, .inl (cy 2, 18, .inr (.inl (fun _ => 0))))] H := ⟨hP, hD⟩
  refine W.widen (k := 4) (n := 1221) (Nat.le_of_ble_eq_true rfl) (Nat.le_of_ble_eq_true rfl) ?_
  refine va_putF (D := G) (ci := 9) (v := .ref q135) (ty := .array .long) (C := RX9) (T := TX9) (N := 5) hx hb hT iw_X9 tyX9 tyX9_ok nmX9 hown hK.1 hP hD hS 0 rfl rfl 3 (by decide) (hT _ tb_358) (fun _ h9 => h9) rfl hin rfl (by decide +kernel) rfl rfl (Nat.le_of_ble_eq_true rfl) dX9_init_36 (fun H locs hP hD hS => ?_)
  obtain ⟨hP, hD⟩ : PD G A [(h0, .inr (9, [.ref q132, .ref q133, .ref q134, .ref q135, .int 0])), (q132, .inl (cy 1, 401, .inl (fun _ => 0))), (q133, .inl (cy 1, 401, .inl (fun _ => 0))), (q134, .inl (cy 2, 401, .inr (.inl (fun _ => 0)))), (q135, .inl (cy 2, 18, .inr (.inl (fun _ => 0))))] H := ⟨hP, hD⟩
  refine lv_iconst (v := 0) hx hb dX9_init_39 (by decide) ?_
  refine lv_istore_n (lv' := [(1, .int 0), (0, .ref h0)]) hx hb dX9_init_40 rfl hl (by decide) rfl (fun ls hl => ?_)
  refine lv_lconst (v := 0) hx hb dX9_init_41 (by decide) ?_
  refine lv_lstore_n (lv' := [(2, .long 0), (1, .int 0), (0, .ref h0)]) hx hb dX9_init_42 rfl hl (by decide) rfl (fun ls hl => ?_)
  refine lv_iconst (v := 0) hx hb dX9_init_43 (by decide) ?_
  refine lv_istore (lv' := [(4, .int 0), (2, .long 0), (1, .int 0), (0, .ref h0)]) hx hb dX9_init_44 hl (by decide) rfl (fun ls hl => ?_)
  have loop : ∀ (n137 i136 : Nat), i136 ≤ 91 → 91 < i136 + n137 → ∀ (w139 : Int64) (z140 : Int32) (y141 : Nat → Int64) (H : Heap) (locs : List Loc) (ls : Array Slot), (0 ≤ z140.toInt ∧ z140.toInt ≤ 18) → lv_has ls 6 [(4, .int (nI i136)), (2, .long w139), (1, .int z140), (0, .ref h0)] → va_P G vwCl [(h0, .inr (9, [.ref q132, .ref q133, .ref q134, .ref q135, .int 0])), (q132, .inl (cy 1, 401, .inl (fun _ => 0))), (q133, .inl (cy 1, 401, .inl (fun _ => 0))), (q134, .inl (cy 2, 401, .inr (.inl (fun _ => 0)))), (q135, .inl (cy 2, 18, .inr (.inl y141)))] H → va_D A [(h0, .inr (9, [.ref q132, .ref q133, .ref q134, .ref q135, .int 0])), (q132, .inl (cy 1, 401, .inl (fun _ => 0))), (q133, .inl (cy 1, 401, .inl (fun _ => 0))), (q134, .inl (cy 2, 401, .inr (.inl (fun _ => 0)))), (q135, .inl (cy 2, 18, .inr (.inl y141)))] → va_S A s.heap H locs → W p l e ({ frames := 4, cells := 4, slots := 1221, locals := 85 } : Room) s m [.ref h0].toArray below meth c H locs 4 1221 (MQ below (QBv (S := Nat × Nat × Nat × Nat) (fun _ : Nat × Nat × Nat × Nat => True) G (fun u => [(h0, .inr (9, [.ref u.1, .ref u.2.1, .ref u.2.2.1, .ref u.2.2.2, .int 0])), (u.1, .inl (cy 1, 401, .inl (fun _ => 0))), (u.2.1, .inl (cy 1, 401, .inl (fun _ => 0))), (u.2.2.1, .inl (cy 2, 401, .inr (.inl (fun _ => 0))))]) A) [.ref h0].toArray s 4 1221 A) (F0 m 46 ls []) := by
    intro n137
    induction n137 with
    | zero => intro i136 h1 h2; exact absurd h2 (by omega)
    | succ n137 ih138 =>
      intro i136 hi hin w139 z140 y141 H locs ls hbz140 hl hP hD hS
      refine lv_iload hx hb dX9_init_46 (lv_at hl 0 rfl) ?_
      refine va_ldcS hx hb hown hE.2.2.2.1 dX9_init_48 ?_
      refine kc_i (W1 := []) (wr := [(h0, .inr (9, [.ref q132, .ref q133, .ref q134, .ref q135, .int 0])), (q132, .inl (cy 1, 401, .inl (fun _ => 0))), (q133, .inl (cy 1, 401, .inl (fun _ => 0))), (q134, .inl (cy 2, 401, .inr (.inl (fun _ => 0)))), (q135, .inl (cy 2, 18, .inr (.inl y141)))]) [] [0, 1, 2, 3, 4] rfl rfl (by decide) (by decide) hP hD hS hA (va_runV (As := []) (rest := [.int (nI i136)]) ⟨hx, hb, hml, hown, hT⟩ (cJ0_length_8abf5_0 l G cy ev _ ) (cwV 0 hT (good_V tb_304 tb_301 tb_302 tb_303 tb_111) rfl rfl rfl (by decide +kernel) ⟨Nat.le_of_ble_eq_true rfl, Nat.le_of_ble_eq_true rfl⟩) (PB.preK (i := 0) hK hE hS hA hP hD [] rfl (by decide) (by decide)) rfl rfl hl.1 rfl (lv_room (Nat.le_of_ble_eq_true rfl)) dX9_init_50 ⟨Nat.le_of_ble_eq_true rfl, Nat.le_of_ble_eq_true rfl⟩) (fun r u H locs hw hP hD hS => ?_)
      obtain rfl : r = 91 := hw
      obtain ⟨hP, hD⟩ : PD G A [(h0, .inr (9, [.ref q132, .ref q133, .ref q134, .ref q135, .int 0])), (q132, .inl (cy 1, 401, .inl (fun _ => 0))), (q133, .inl (cy 1, 401, .inl (fun _ => 0))), (q134, .inl (cy 2, 401, .inr (.inl (fun _ => 0)))), (q135, .inl (cy 2, 18, .inr (.inl y141)))] H := ⟨hP, hD⟩
      refine lv_icmp_ge (tgt := 106) hx hb dX9_init_53 (by decide) (fun cd142 => ?_) (fun cd142 => ?_)
      · have hiE : 91 = i136 := (n_ge (by exact cd142) (by decide) hi).symm
        subst hiE
        exact kr_v hx hb hr hlocks hP hD hS (u := ((q132, q133, q134, q135) : Nat × Nat × Nat × Nat)) trivial [0, 1, 2, 3] rfl (by decide) (Nat.le_of_ble_eq_true rfl) (Nat.le_of_ble_eq_true rfl) dX9_init_106
      · have hlt : i136 < 91 := n_lt (by exact cd142) (by decide) hi
        refine lv_iload_n hx hb dX9_init_56 rfl (lv_at hl 2 rfl) ?_
        refine lv_bipush (v := 18) hx hb dX9_init_57 (by decide) ?_
        refine lv_icmp_ge (tgt := 106) hx hb dX9_init_59 (by decide) (fun cd143 => ?_) (fun cd143 => ?_)
        · skip
          have hb144 := f_le_lo (k := 18) hbz140 cd143 (by decide)
          exact kr_v hx hb hr hlocks hP hD hS (u := ((q132, q133, q134, q135) : Nat × Nat × Nat × Nat)) trivial [0, 1, 2, 3] rfl (by decide) (Nat.le_of_ble_eq_true rfl) (Nat.le_of_ble_eq_true rfl) dX9_init_106
        · skip
          have hb145 := f_nle_up (k := 17) hbz140 cd143 (by decide)
          refine va_ldcS hx hb hown hE.2.2.2.1 dX9_init_62 ?_
          refine lv_iload hx hb dX9_init_64 (lv_at hl 0 rfl) ?_
          refine kc_i (W1 := []) (wr := [(h0, .inr (9, [.ref q132, .ref q133, .ref q134, .ref q135, .int 0])), (q132, .inl (cy 1, 401, .inl (fun _ => 0))), (q133, .inl (cy 1, 401, .inl (fun _ => 0))), (q134, .inl (cy 2, 401, .inr (.inl (fun _ => 0)))), (q135, .inl (cy 2, 18, .inr (.inl y141)))]) [] [0, 1, 2, 3, 4] rfl rfl (by decide) (by decide) hP hD hS hA (va_runV (As := [.int (nI i136)]) (rest := []) ⟨hx, hb, hml, hown, hT⟩ (cJ0_charAt_5068e_0 l G cy ev _ ((nI i136)) ((b_nI (by omega) (by omega) (by omega)))) (cwV 1 hT (good_V tb_314 tb_311 tb_312 tb_313 tb_111) rfl rfl rfl (by decide +kernel) ⟨Nat.le_of_ble_eq_true rfl, Nat.le_of_ble_eq_true rfl⟩) (PB.preK (i := 0) hK hE hS hA hP hD [] rfl (by decide) (by decide)) rfl rfl hl.1 rfl (lv_room (Nat.le_of_ble_eq_true rfl)) dX9_init_66 ⟨Nat.le_of_ble_eq_true rfl, Nat.le_of_ble_eq_true rfl⟩) (fun r u H locs hw hP hD hS => ?_)
          obtain rfl : r = (((((bytS.getD 0 []).getD ((nI i136) : Int32).toNatClampNeg 0) &&& 255)).toUInt32 % 65536).toInt32 := hw
          obtain ⟨hP, hD⟩ : PD G A [(h0, .inr (9, [.ref q132, .ref q133, .ref q134, .ref q135, .int 0])), (q132, .inl (cy 1, 401, .inl (fun _ => 0))), (q133, .inl (cy 1, 401, .inl (fun _ => 0))), (q134, .inl (cy 2, 401, .inr (.inl (fun _ => 0)))), (q135, .inl (cy 2, 18, .inr (.inl y141)))] H := ⟨hP, hD⟩
          refine lv_istore (lv' := [(5, .int (((((bytS.getD 0 []).getD ((nI i136) : Int32).toNatClampNeg 0) &&& 255)).toUInt32 % 65536).toInt32), (4, .int (nI i136)), (2, .long w139), (1, .int z140), (0, .ref h0)]) hx hb dX9_init_69 hl (by decide) rfl (fun ls hl => ?_)
          refine lv_iload hx hb dX9_init_71 (lv_at hl 0 rfl) ?_
          refine lv_bipush (v := 32) hx hb dX9_init_73 (by decide) ?_
          refine lv_icmp_ne (tgt := 93) hx hb dX9_init_75 (by decide) (fun cd146 => ?_) (fun cd146 => ?_)
          · skip
            refine lv_lload_n hx hb dX9_init_93 rfl (lv_at hl 2 rfl) ?_
            refine lv_iload hx hb dX9_init_94 (lv_at hl 0 rfl) ?_
            refine kc_l (W1 := []) (wr := [(h0, .inr (9, [.ref q132, .ref q133, .ref q134, .ref q135, .int 0])), (q132, .inl (cy 1, 401, .inl (fun _ => 0))), (q133, .inl (cy 1, 401, .inl (fun _ => 0))), (q134, .inl (cy 2, 401, .inr (.inl (fun _ => 0)))), (q135, .inl (cy 2, 18, .inr (.inl y141)))]) [] [0, 1, 2, 3, 4] rfl rfl (by decide) (by decide) hP hD hS hA (va_runS (As := [.long w139, .int (((((bytS.getD 0 []).getD ((nI i136) : Int32).toNatClampNeg 0) &&& 255)).toUInt32 % 65536).toInt32]) (rest := []) ⟨hx, hb, hml, hown, hT⟩ (cX9_withLetter_0 l G cy ev _ w139 ((((((bytS.getD 0 []).getD ((nI i136) : Int32).toNatClampNeg 0) &&& 255)).toUInt32 % 65536).toInt32)) (va_cwS 2 hT (good_S tb_351 tb_349 tb_350 tb_110) rfl rfl rfl (by decide +kernel) ⟨Nat.le_of_ble_eq_true rfl, Nat.le_of_ble_eq_true rfl⟩) (PB.preS hK hE hS hA hP hD [] rfl (by decide)) rfl rfl hl.1 rfl (lv_room (Nat.le_of_ble_eq_true rfl)) dX9_init_96 ⟨Nat.le_of_ble_eq_true rfl, Nat.le_of_ble_eq_true rfl⟩) (fun r u H locs hw hP hD hS => ?_)
            obtain rfl : r = ((w139 * 32) + ((((((((bytS.getD 0 []).getD ((nI i136) : Int32).toNatClampNeg 0) &&& 255)).toUInt32 % 65536).toInt32 - 97) + 1)).toInt64) := hw
            obtain ⟨hP, hD⟩ : PD G A [(h0, .inr (9, [.ref q132, .ref q133, .ref q134, .ref q135, .int 0])), (q132, .inl (cy 1, 401, .inl (fun _ => 0))), (q133, .inl (cy 1, 401, .inl (fun _ => 0))), (q134, .inl (cy 2, 401, .inr (.inl (fun _ => 0)))), (q135, .inl (cy 2, 18, .inr (.inl y141)))] H := ⟨hP, hD⟩
            refine lv_lstore_n (lv' := [(2, .long ((w139 * 32) + ((((((((bytS.getD 0 []).getD ((nI i136) : Int32).toNatClampNeg 0) &&& 255)).toUInt32 % 65536).toInt32 - 97) + 1)).toInt64)), (5, .int (((((bytS.getD 0 []).getD ((nI i136) : Int32).toNatClampNeg 0) &&& 255)).toUInt32 % 65536).toInt32), (4, .int (nI i136)), (1, .int z140), (0, .ref h0)]) hx hb dX9_init_99 rfl hl (by decide) rfl (fun ls hl => ?_)
            refine lv_iinc (v := (nI (i136 + 1))) (lv' := [(4, .int (nI (i136 + 1))), (2, .long ((w139 * 32) + ((((((((bytS.getD 0 []).getD ((nI i136) : Int32).toNatClampNeg 0) &&& 255)).toUInt32 % 65536).toInt32 - 97) + 1)).toInt64)), (5, .int (((((bytS.getD 0 []).getD ((nI i136) : Int32).toNatClampNeg 0) &&& 255)).toUInt32 % 65536).toInt32), (1, .int z140), (0, .ref h0)]) hx hb dX9_init_100 hl (k := 2) rfl (nI_1 _) (by decide) rfl (fun ls hl => ?_)
            refine lv_goto (tgt := 46) hx hb dX9_init_103 (by decide) ?_
            exact ih138 (i136 + 1) (by omega) (by omega) ((w139 * 32) + ((((((((bytS.getD 0 []).getD ((nI i136) : Int32).toNatClampNeg 0) &&& 255)).toUInt32 % 65536).toInt32 - 97) + 1)).toInt64) z140 y141 _ _ ls (b_wid hb145 (by decide) (by decide)) (lv_sub hl [0, 1, 3, 4] rfl) hP hD hS
          · skip
            refine lv_aload_n hx hb dX9_init_78 rfl (lv_at hl 4 rfl) ?_
            refine va_get (D := G) (ci := 9) (v := .ref q135) (C := RX9) (T := TX9) (N := 5) hx hb hT iw_X9 hown hK.1 hP 0 rfl rfl 3 (by decide) (hT _ tb_358) (fun _ h9 => h9) rfl dX9_init_79 ?_
            refine lv_iload_n hx hb dX9_init_82 rfl (lv_at hl 3 rfl) ?_
            refine lv_lload_n hx hb dX9_init_83 rfl (lv_at hl 2 rfl) ?_
            refine va_last hx hb hK.1 hP hD hS 4 2 rfl rfl (vp_in_iff.mpr (by have := hb145; omega)) dX9_init_84 (fun H locs hP hD hS => ?_)
            obtain ⟨y147, hP, hD⟩ : ∃ y147 : Nat → Int64, PD G A [(h0, .inr (9, [.ref q132, .ref q133, .ref q134, .ref q135, .int 0])), (q132, .inl (cy 1, 401, .inl (fun _ => 0))), (q133, .inl (cy 1, 401, .inl (fun _ => 0))), (q134, .inl (cy 2, 401, .inr (.inl (fun _ => 0)))), (q135, .inl (cy 2, 18, .inr (.inl y147)))] H := ⟨_, hP, hD⟩
            refine lv_iinc (v := (z140 + 1)) (lv' := [(1, .int (z140 + 1)), (5, .int (((((bytS.getD 0 []).getD ((nI i136) : Int32).toNatClampNeg 0) &&& 255)).toUInt32 % 65536).toInt32), (4, .int (nI i136)), (2, .long w139), (0, .ref h0)]) hx hb dX9_init_85 hl (k := 3) rfl rfl (by decide) rfl (fun ls hl => ?_)
            refine lv_lconst (v := 0) hx hb dX9_init_88 (by decide) ?_
            refine lv_lstore_n (lv' := [(2, .long 0), (1, .int (z140 + 1)), (5, .int (((((bytS.getD 0 []).getD ((nI i136) : Int32).toNatClampNeg 0) &&& 255)).toUInt32 % 65536).toInt32), (4, .int (nI i136)), (0, .ref h0)]) hx hb dX9_init_89 rfl hl (by decide) rfl (fun ls hl => ?_)
            refine lv_goto (tgt := 100) hx hb dX9_init_90 (by decide) ?_
            refine lv_iinc (v := (nI (i136 + 1))) (lv' := [(4, .int (nI (i136 + 1))), (2, .long 0), (1, .int (z140 + 1)), (5, .int (((((bytS.getD 0 []).getD ((nI i136) : Int32).toNatClampNeg 0) &&& 255)).toUInt32 % 65536).toInt32), (0, .ref h0)]) hx hb dX9_init_100 hl (k := 3) rfl (nI_1 _) (by decide) rfl (fun ls hl => ?_)
            refine lv_goto (tgt := 46) hx hb dX9_init_103 (by decide) ?_
            exact ih138 (i136 + 1) (by omega) (by omega) 0 (z140 + 1) y147 _ _ ls (b_wid (b_add (k := 1) hb145 (by decide) (by decide) (by decide)) (by decide) (by decide)) (lv_sub hl [0, 1, 2, 4] rfl) hP hD hS
  exact loop (91 + 1) 0 (by omega) (by omega) 0 0 (fun _ => 0) _ _ ls (by decide) (by have q := lv_sub hl [0, 1, 2, 3] rfl; exact q) hP hD hS

set_option maxRecDepth 100000 in
set_option maxHeartbeats 4000000 in
theorem cX7_init_1 (l : Launch) (G : va_G) (cy : Nat → ClassId) (ev : Ev) (sz : Nat) (h0 : Nat)  : Met l yX7_init (WS yX7_init cX7_init 2 none) { frames := 1, cells := 3, slots := 22, locals := 20 } (PB [.ref h0, .int 0] sz G cy ev [(h0, .inr (7, [.int 0, .int 0, .int 0, .int 0, .int 0, .long 0, .int 0, .int 0, .int 0, .int 0, .null, .null, .null]))]) (QBv (S := Nat × Nat × Nat) (fun _ : Nat × Nat × Nat => True) G (fun u => [(h0, .inr (7, [.int 0, .int 0, .int 0, .int 0, .int 0, .long 0, .int 0, .int 0, .int 0, .int 0, .ref u.1, .ref u.2.1, .ref u.2.2])), (u.1, .inl (cy 1, 8, .inl (fun _ => 0))), (u.2.1, .inl (cy 1, 8, .inl (fun _ => 0))), (u.2.2, .inl (cy 1, 6, .inl (fun _ => 0)))]) (va_A [(h0, .inr (7, [.int 0, .int 0, .int 0, .int 0, .int 0, .long 0, .int 0, .int 0, .int 0, .int 0, .null, .null, .null]))] sz)) 3 22 (va_A [(h0, .inr (7, [.int 0, .int 0, .int 0, .int 0, .int 0, .long 0, .int 0, .int 0, .int 0, .int 0, .null, .null, .null]))] sz) := by
  refine met_of (y := yX7_init) (L := 2) (av := [.ref h0, .int 0]) (Qc := fun A => QBv (S := Nat × Nat × Nat) (fun _ : Nat × Nat × Nat => True) G (fun u => [(h0, .inr (7, [.int 0, .int 0, .int 0, .int 0, .int 0, .long 0, .int 0, .int 0, .int 0, .int 0, .ref u.1, .ref u.2.1, .ref u.2.2])), (u.1, .inl (cy 1, 8, .inl (fun _ => 0))), (u.2.1, .inl (cy 1, 8, .inl (fun _ => 0))), (u.2.2, .inl (cy 1, 6, .inl (fun _ => 0)))]) A) (by decide) (Nat.le_of_ble_eq_true rfl) ?_
  intro p e s m below meth c hx hb hr hml hown hT hlocks hin hK A hA hE hP hD hS ls hl
  have hown : s.vm.findClass "LieClock$State" = some m.cls := hown
  have hl : lv_has ls 2 [(0, .ref h0), (1, .int 0)] := hl
  refine lv_aload_n hx hb dX7_init_0 rfl (lv_at hl 0 rfl) ?_
  refine W.objInit hx hb hown (hT _ tb_410) (hT _ tb_134) (hT _ tb_135) rfl (by rw [hml]; exact hl.1) rfl dX7_init_1 (Nat.le_of_ble_eq_true rfl) (Nat.le_of_ble_eq_true rfl) ?_
  refine W.eq (g2 := F0 m 4 ls []) rfl ?_
  refine lv_aload_n hx hb dX7_init_4 rfl (lv_at hl 0 rfl) ?_
  refine lv_bipush (v := 8) hx hb dX7_init_5 (by decide) ?_
  refine kn_a (atype := .int) (ty := .int) (N' := 8) (a0 := (8, .inl (fun _ => 0))) hx hb (hT _ tb_182) rfl hK hP hD hS hA 1 rfl (fun _ => rfl) (by decide) (by decide) (by decide) (Nat.le_of_ble_eq_true rfl) (Nat.le_of_ble_eq_true rfl) dX7_init_7 (fun q158 H hP hD hS => ?_)
  obtain ⟨hP, hD⟩ : PD G A [(h0, .inr (7, [.int 0, .int 0, .int 0, .int 0, .int 0, .long 0, .int 0, .int 0, .int 0, .int 0, .null, .null, .null])), (q158, .inl (cy 1, 8, .inl (fun _ => 0)))] H := ⟨hP, hD⟩
  refine W.widen (k := 1) (n := 8) (Nat.le_of_ble_eq_true rfl) (Nat.le_of_ble_eq_true rfl) ?_
  refine va_putF (D := G) (ci := 7) (v := .ref q158) (ty := .array .int) (C := RX7) (T := TX7) (N := 13) hx hb hT iw_X7 tyX7 tyX7_ok nmX7 hown hK.1 hP hD hS 0 rfl rfl 10 (by decide) (hT _ tb_438) (fun _ h9 => h9) rfl hin rfl (by decide +kernel) rfl rfl (Nat.le_of_ble_eq_true rfl) dX7_init_9 (fun H locs hP hD hS => ?_)
  obtain ⟨hP, hD⟩ : PD G A [(h0, .inr (7, [.int 0, .int 0, .int 0, .int 0, .int 0, .long 0, .int 0, .int 0, .int 0, .int 0, .ref q158, .null, .null])), (q158, .inl (cy 1, 8, .inl (fun _ => 0)))] H := ⟨hP, hD⟩
  refine lv_aload_n hx hb dX7_init_12 rfl (lv_at hl 0 rfl) ?_
  refine lv_bipush (v := 8) hx hb dX7_init_13 (by decide) ?_
  refine kn_a (atype := .int) (ty := .int) (N' := 8) (a0 := (8, .inl (fun _ => 0))) hx hb (hT _ tb_182) rfl hK hP hD hS hA 1 rfl (fun _ => rfl) (by decide) (by decide) (by decide) (Nat.le_of_ble_eq_true rfl) (Nat.le_of_ble_eq_true rfl) dX7_init_15 (fun q159 H hP hD hS => ?_)
  obtain ⟨hP, hD⟩ : PD G A [(h0, .inr (7, [.int 0, .int 0, .int 0, .int 0, .int 0, .long 0, .int 0, .int 0, .int 0, .int 0, .ref q158, .null, .null])), (q158, .inl (cy 1, 8, .inl (fun _ => 0))), (q159, .inl (cy 1, 8, .inl (fun _ => 0)))] H := ⟨hP, hD⟩
  refine W.widen (k := 2) (n := 16) (Nat.le_of_ble_eq_true rfl) (Nat.le_of_ble_eq_true rfl) ?_
  refine va_putF (D := G) (ci := 7) (v := .ref q159) (ty := .array .int) (C := RX7) (T := TX7) (N := 13) hx hb hT iw_X7 tyX7 tyX7_ok nmX7 hown hK.1 hP hD hS 0 rfl rfl 11 (by decide) (hT _ tb_440) (fun _ h9 => h9) rfl hin rfl (by decide +kernel) rfl rfl (Nat.le_of_ble_eq_true rfl) dX7_init_17 (fun H locs hP hD hS => ?_)
  obtain ⟨hP, hD⟩ : PD G A [(h0, .inr (7, [.int 0, .int 0, .int 0, .int 0, .int 0, .long 0, .int 0, .int 0, .int 0, .int 0, .ref q158, .ref q159, .null])), (q158, .inl (cy 1, 8, .inl (fun _ => 0))), (q159, .inl (cy 1, 8, .inl (fun _ => 0)))] H := ⟨hP, hD⟩
  refine lv_aload_n hx hb dX7_init_20 rfl (lv_at hl 0 rfl) ?_
  refine lv_bipush (v := 6) hx hb dX7_init_21 (by decide) ?_
  refine kn_a (atype := .int) (ty := .int) (N' := 6) (a0 := (6, .inl (fun _ => 0))) hx hb (hT _ tb_182) rfl hK hP hD hS hA 1 rfl (fun _ => rfl) (by decide) (by decide) (by decide) (Nat.le_of_ble_eq_true rfl) (Nat.le_of_ble_eq_true rfl) dX7_init_23 (fun q160 H hP hD hS => ?_)
  obtain ⟨hP, hD⟩ : PD G A [(h0, .inr (7, [.int 0, .int 0, .int 0, .int 0, .int 0, .long 0, .int 0, .int 0, .int 0, .int 0, .ref q158, .ref q159, .null])), (q158, .inl (cy 1, 8, .inl (fun _ => 0))), (q159, .inl (cy 1, 8, .inl (fun _ => 0))), (q160, .inl (cy 1, 6, .inl (fun _ => 0)))] H := ⟨hP, hD⟩
  refine W.widen (k := 3) (n := 22) (Nat.le_of_ble_eq_true rfl) (Nat.le_of_ble_eq_true rfl) ?_
  refine va_putF (D := G) (ci := 7) (v := .ref q160) (ty := .array .int) (C := RX7) (T := TX7) (N := 13) hx hb hT iw_X7 tyX7 tyX7_ok nmX7 hown hK.1 hP hD hS 0 rfl rfl 12 (by decide) (hT _ tb_442) (fun _ h9 => h9) rfl hin rfl (by decide +kernel) rfl rfl (Nat.le_of_ble_eq_true rfl) dX7_init_25 (fun H locs hP hD hS => ?_)
  obtain ⟨hP, hD⟩ : PD G A [(h0, .inr (7, [.int 0, .int 0, .int 0, .int 0, .int 0, .long 0, .int 0, .int 0, .int 0, .int 0, .ref q158, .ref q159, .ref q160])), (q158, .inl (cy 1, 8, .inl (fun _ => 0))), (q159, .inl (cy 1, 8, .inl (fun _ => 0))), (q160, .inl (cy 1, 6, .inl (fun _ => 0)))] H := ⟨hP, hD⟩
  refine lv_aload_n hx hb dX7_init_28 rfl (lv_at hl 0 rfl) ?_
  refine lv_iload_n hx hb dX7_init_29 rfl (lv_at hl 1 rfl) ?_
  refine va_putF (D := G) (ci := 7) (v := .int 0) (ty := .boolean) (C := RX7) (T := TX7) (N := 13) hx hb hT iw_X7 tyX7 tyX7_ok nmX7 hown hK.1 hP hD hS 0 rfl rfl 9 (by decide) (hT _ tb_437) (fun _ h9 => h9) rfl hin rfl (by decide +kernel) rfl rfl (Nat.le_of_ble_eq_true rfl) dX7_init_30 (fun H locs hP hD hS => ?_)
  obtain ⟨hP, hD⟩ : PD G A [(h0, .inr (7, [.int 0, .int 0, .int 0, .int 0, .int 0, .long 0, .int 0, .int 0, .int 0, .int 0, .ref q158, .ref q159, .ref q160])), (q158, .inl (cy 1, 8, .inl (fun _ => 0))), (q159, .inl (cy 1, 8, .inl (fun _ => 0))), (q160, .inl (cy 1, 6, .inl (fun _ => 0)))] H := ⟨hP, hD⟩
  exact kr_v hx hb hr hlocks hP hD hS (u := ((q158, q159, q160) : Nat × Nat × Nat)) trivial [0, 1, 2, 3] rfl (by decide) (Nat.le_of_ble_eq_true rfl) (Nat.le_of_ble_eq_true rfl) dX7_init_33

set_option maxRecDepth 100000 in
set_option maxHeartbeats 4000000 in
theorem cX4_init_0 (l : Launch) (G : va_G) (cy : Nat → ClassId) (ev : Ev) (sz : Nat) (h0 : Nat)  : Met l yX4_init (WS yX4_init cX4_init 2 none) { frames := 2, cells := 31, slots := 264, locals := 41 } (PB [.ref h0] sz G cy ev [(h0, .inr (4, [.null, .null, .null, .int 0, .int 0, .int 0, .int 0, .int 0]))]) (QBv (S := Nat × Nat × Nat × Nat × Nat × Nat × Nat × (Nat → Option Nat)) (fun _ : Nat × Nat × Nat × Nat × Nat × Nat × Nat × (Nat → Option Nat) => True) G (fun u => [(h0, .inr (4, [.ref u.1, .ref u.2.1, .ref u.2.2.1, .int 0, .int 0, .int 0, .int 0, .int 0])), (u.1, .inl (cy 4, 7, .inr (.inr (.inr (.inr (va_up u.2.2.2.2.2.2.2 0 (some u.2.2.2.1))))))), (u.2.1, .inl (cy 1, 6, .inl (fun _ => 0))), (u.2.2.1, .inl (cy 1, 6, .inl (fun _ => 0))), (u.2.2.2.1, .inr (7, [.int 0, .int 0, .int 0, .int 0, .int 0, .long 0, .int 0, .int 0, .int 0, .int 0, .ref u.2.2.2.2.1, .ref u.2.2.2.2.2.1, .ref u.2.2.2.2.2.2.1])), (u.2.2.2.2.1, .inl (cy 1, 8, .inl (fun _ => 0))), (u.2.2.2.2.2.1, .inl (cy 1, 8, .inl (fun _ => 0))), (u.2.2.2.2.2.2.1, .inl (cy 1, 6, .inl (fun _ => 0)))]) (va_A [(h0, .inr (4, [.null, .null, .null, .int 0, .int 0, .int 0, .int 0, .int 0]))] sz)) 31 264 (va_A [(h0, .inr (4, [.null, .null, .null, .int 0, .int 0, .int 0, .int 0, .int 0]))] sz) := by
  refine met_of (y := yX4_init) (L := 2) (av := [.ref h0]) (Qc := fun A => QBv (S := Nat × Nat × Nat × Nat × Nat × Nat × Nat × (Nat → Option Nat)) (fun _ : Nat × Nat × Nat × Nat × Nat × Nat × Nat × (Nat → Option Nat) => True) G (fun u => [(h0, .inr (4, [.ref u.1, .ref u.2.1, .ref u.2.2.1, .int 0, .int 0, .int 0, .int 0, .int 0])), (u.1, .inl (cy 4, 7, .inr (.inr (.inr (.inr (va_up u.2.2.2.2.2.2.2 0 (some u.2.2.2.1))))))), (u.2.1, .inl (cy 1, 6, .inl (fun _ => 0))), (u.2.2.1, .inl (cy 1, 6, .inl (fun _ => 0))), (u.2.2.2.1, .inr (7, [.int 0, .int 0, .int 0, .int 0, .int 0, .long 0, .int 0, .int 0, .int 0, .int 0, .ref u.2.2.2.2.1, .ref u.2.2.2.2.2.1, .ref u.2.2.2.2.2.2.1])), (u.2.2.2.2.1, .inl (cy 1, 8, .inl (fun _ => 0))), (u.2.2.2.2.2.1, .inl (cy 1, 8, .inl (fun _ => 0))), (u.2.2.2.2.2.2.1, .inl (cy 1, 6, .inl (fun _ => 0)))]) A) (by decide) (Nat.le_of_ble_eq_true rfl) ?_
  intro p e s m below meth c hx hb hr hml hown hT hlocks hin hK A hA hE hP hD hS ls hl
  have hown : s.vm.findClass "LieClock$Orders" = some m.cls := hown
  have hl : lv_has ls 2 [(0, .ref h0)] := hl
  refine lv_aload_n hx hb dX4_init_0 rfl (lv_at hl 0 rfl) ?_
  refine W.objInit hx hb hown (hT _ tb_552) (hT _ tb_134) (hT _ tb_135) rfl (by rw [hml]; exact hl.1) rfl dX4_init_1 (Nat.le_of_ble_eq_true rfl) (Nat.le_of_ble_eq_true rfl) ?_
  refine W.eq (g2 := F0 m 4 ls []) rfl ?_
  refine lv_aload_n hx hb dX4_init_4 rfl (lv_at hl 0 rfl) ?_
  refine lv_bipush (v := 7) hx hb dX4_init_5 (by decide) ?_
  refine kn_q (C := "LieClock$State") (N' := 7) hx hb hown (hT _ tb_553) nw_380 hK hP hD hS hA 4 rfl (by decide) (by decide) (by decide) (Nat.le_of_ble_eq_true rfl) (Nat.le_of_ble_eq_true rfl) dX4_init_7 (fun q270 H hP hD hS => ?_)
  obtain ⟨hP, hD⟩ : PD G A [(h0, .inr (4, [.null, .null, .null, .int 0, .int 0, .int 0, .int 0, .int 0])), (q270, .inl (cy 4, 7, .inr (.inr (.inr (.inr (fun _ => none))))))] H := ⟨hP, hD⟩
  refine W.widen (k := 1) (n := 7) (Nat.le_of_ble_eq_true rfl) (Nat.le_of_ble_eq_true rfl) ?_
  refine va_putF (D := G) (ci := 4) (v := .ref q270) (ty := .array (.object "LieClock$State")) (C := RX4) (T := TX4) (N := 8) hx hb hT iw_X4 tyX4 tyX4_ok nmX4 hown hK.1 hP hD hS 0 rfl rfl 0 (by decide) (hT _ tb_555) (fun _ h9 => h9) rfl hin rfl (by decide +kernel) rfl rfl (Nat.le_of_ble_eq_true rfl) dX4_init_10 (fun H locs hP hD hS => ?_)
  obtain ⟨hP, hD⟩ : PD G A [(h0, .inr (4, [.ref q270, .null, .null, .int 0, .int 0, .int 0, .int 0, .int 0])), (q270, .inl (cy 4, 7, .inr (.inr (.inr (.inr (fun _ => none))))))] H := ⟨hP, hD⟩
  refine lv_aload_n hx hb dX4_init_13 rfl (lv_at hl 0 rfl) ?_
  refine lv_bipush (v := 6) hx hb dX4_init_14 (by decide) ?_
  refine kn_a (atype := .int) (ty := .int) (N' := 6) (a0 := (6, .inl (fun _ => 0))) hx hb (hT _ tb_182) rfl hK hP hD hS hA 1 rfl (fun _ => rfl) (by decide) (by decide) (by decide) (Nat.le_of_ble_eq_true rfl) (Nat.le_of_ble_eq_true rfl) dX4_init_16 (fun q271 H hP hD hS => ?_)
  obtain ⟨hP, hD⟩ : PD G A [(h0, .inr (4, [.ref q270, .null, .null, .int 0, .int 0, .int 0, .int 0, .int 0])), (q270, .inl (cy 4, 7, .inr (.inr (.inr (.inr (fun _ => none)))))), (q271, .inl (cy 1, 6, .inl (fun _ => 0)))] H := ⟨hP, hD⟩
  refine W.widen (k := 2) (n := 13) (Nat.le_of_ble_eq_true rfl) (Nat.le_of_ble_eq_true rfl) ?_
  refine va_putF (D := G) (ci := 4) (v := .ref q271) (ty := .array .int) (C := RX4) (T := TX4) (N := 8) hx hb hT iw_X4 tyX4 tyX4_ok nmX4 hown hK.1 hP hD hS 0 rfl rfl 1 (by decide) (hT _ tb_556) (fun _ h9 => h9) rfl hin rfl (by decide +kernel) rfl rfl (Nat.le_of_ble_eq_true rfl) dX4_init_18 (fun H locs hP hD hS => ?_)
  obtain ⟨hP, hD⟩ : PD G A [(h0, .inr (4, [.ref q270, .ref q271, .null, .int 0, .int 0, .int 0, .int 0, .int 0])), (q270, .inl (cy 4, 7, .inr (.inr (.inr (.inr (fun _ => none)))))), (q271, .inl (cy 1, 6, .inl (fun _ => 0)))] H := ⟨hP, hD⟩
  refine lv_aload_n hx hb dX4_init_21 rfl (lv_at hl 0 rfl) ?_
  refine lv_bipush (v := 6) hx hb dX4_init_22 (by decide) ?_
  refine kn_a (atype := .int) (ty := .int) (N' := 6) (a0 := (6, .inl (fun _ => 0))) hx hb (hT _ tb_182) rfl hK hP hD hS hA 1 rfl (fun _ => rfl) (by decide) (by decide) (by decide) (Nat.le_of_ble_eq_true rfl) (Nat.le_of_ble_eq_true rfl) dX4_init_24 (fun q272 H hP hD hS => ?_)
  obtain ⟨hP, hD⟩ : PD G A [(h0, .inr (4, [.ref q270, .ref q271, .null, .int 0, .int 0, .int 0, .int 0, .int 0])), (q270, .inl (cy 4, 7, .inr (.inr (.inr (.inr (fun _ => none)))))), (q271, .inl (cy 1, 6, .inl (fun _ => 0))), (q272, .inl (cy 1, 6, .inl (fun _ => 0)))] H := ⟨hP, hD⟩
  refine W.widen (k := 3) (n := 19) (Nat.le_of_ble_eq_true rfl) (Nat.le_of_ble_eq_true rfl) ?_
  refine va_putF (D := G) (ci := 4) (v := .ref q272) (ty := .array .int) (C := RX4) (T := TX4) (N := 8) hx hb hT iw_X4 tyX4 tyX4_ok nmX4 hown hK.1 hP hD hS 0 rfl rfl 2 (by decide) (hT _ tb_557) (fun _ h9 => h9) rfl hin rfl (by decide +kernel) rfl rfl (Nat.le_of_ble_eq_true rfl) dX4_init_26 (fun H locs hP hD hS => ?_)
  obtain ⟨hP, hD⟩ : PD G A [(h0, .inr (4, [.ref q270, .ref q271, .ref q272, .int 0, .int 0, .int 0, .int 0, .int 0])), (q270, .inl (cy 4, 7, .inr (.inr (.inr (.inr (fun _ => none)))))), (q271, .inl (cy 1, 6, .inl (fun _ => 0))), (q272, .inl (cy 1, 6, .inl (fun _ => 0)))] H := ⟨hP, hD⟩
  refine lv_iconst (v := 0) hx hb dX4_init_29 (by decide) ?_
  refine lv_istore_n (lv' := [(1, .int 0), (0, .ref h0)]) hx hb dX4_init_30 rfl hl (by decide) rfl (fun ls hl => ?_)
  refine lv_iload_n hx hb dX4_init_31 rfl (lv_at hl 0 rfl) ?_
  refine lv_bipush (v := 6) hx hb dX4_init_32 (by decide) ?_
  refine lv_icmp_gt (tgt := 57) hx hb dX4_init_34 (by decide) (fun c => absurd c (by decide)) (fun _ => ?_)
  refine lv_aload_n hx hb dX4_init_37 rfl (lv_at hl 1 rfl) ?_
  refine va_get (D := G) (ci := 4) (v := .ref q270) (C := RX4) (T := TX4) (N := 8) hx hb hT iw_X4 hown hK.1 hP 0 rfl rfl 0 (by decide) (hT _ tb_555) (fun _ h9 => h9) rfl dX4_init_38 ?_
  refine lv_iload_n hx hb dX4_init_41 rfl (lv_at hl 0 rfl) ?_
  refine va_new (ci := 7) (fs := [.int 0, .int 0, .int 0, .int 0, .int 0, .long 0, .int 0, .int 0, .int 0, .int 0, .null, .null, .null]) (C := RX7) (T := TX7) (N := 13) hx hb hT iw_X7 tyX7 tyX7_ok hown (hT _ tb_553) (hT _ tb_406) (hT _ tb_115) hK.1 hP hD hS hA rfl nf_X7 (Nat.le_of_ble_eq_true rfl) (Nat.le_of_ble_eq_true rfl) dX4_init_42 (fun q273 H hP hD hS => ?_)
  obtain ⟨hP, hD⟩ : PD G A [(h0, .inr (4, [.ref q270, .ref q271, .ref q272, .int 0, .int 0, .int 0, .int 0, .int 0])), (q270, .inl (cy 4, 7, .inr (.inr (.inr (.inr (fun _ => none)))))), (q271, .inl (cy 1, 6, .inl (fun _ => 0))), (q272, .inl (cy 1, 6, .inl (fun _ => 0))), (q273, .inr (7, [.int 0, .int 0, .int 0, .int 0, .int 0, .long 0, .int 0, .int 0, .int 0, .int 0, .null, .null, .null]))] H := ⟨hP, hD⟩
  refine W.widen (k := 4) (n := 32) (Nat.le_of_ble_eq_true rfl) (Nat.le_of_ble_eq_true rfl) ?_
  refine lv_dup hx hb dX4_init_45 rfl ?_
  refine lv_iconst (v := 0) hx hb dX4_init_46 (by decide) ?_
  refine kc_v (W1 := [(q273, .inr (7, [.int 0, .int 0, .int 0, .int 0, .int 0, .long 0, .int 0, .int 0, .int 0, .int 0, .null, .null, .null]))]) (wr := [(h0, .inr (4, [.ref q270, .ref q271, .ref q272, .int 0, .int 0, .int 0, .int 0, .int 0])), (q270, .inl (cy 4, 7, .inr (.inr (.inr (.inr (fun _ => none)))))), (q271, .inl (cy 1, 6, .inl (fun _ => 0))), (q272, .inl (cy 1, 6, .inl (fun _ => 0)))]) [4] [0, 1, 2, 3] rfl rfl (by decide) (by decide) hP hD hS hA (va_runI (As := [.int 0]) (rest := [.ref q273, .int 0, .ref q270]) ⟨hx, hb, hml, hown, hT⟩ (cX7_init_1 l G cy ev _ q273) (cwI 1 hT (good_TB tb_409) rfl rfl rfl (hT _ tb_115) (hT _ tb_554) (hT _ tb_408) rfl (by decide +kernel) ⟨Nat.le_of_ble_eq_true rfl, Nat.le_of_ble_eq_true rfl⟩) (PB.preS hK hE hS hA hP hD [4] rfl (by decide)) rfl rfl hl.1 rfl (lv_room (Nat.le_of_ble_eq_true rfl)) dX4_init_47 ⟨Nat.le_of_ble_eq_true rfl, Nat.le_of_ble_eq_true rfl⟩) (fun u H locs hw hP hD hS => ?_)
  obtain ⟨q277, q278, q279⟩ := u
  obtain ⟨hP, hD⟩ : PD G A [(h0, .inr (4, [.ref q270, .ref q271, .ref q272, .int 0, .int 0, .int 0, .int 0, .int 0])), (q270, .inl (cy 4, 7, .inr (.inr (.inr (.inr (fun _ => none)))))), (q271, .inl (cy 1, 6, .inl (fun _ => 0))), (q272, .inl (cy 1, 6, .inl (fun _ => 0))), (q273, .inr (7, [.int 0, .int 0, .int 0, .int 0, .int 0, .long 0, .int 0, .int 0, .int 0, .int 0, .ref q277, .ref q278, .ref q279])), (q277, .inl (cy 1, 8, .inl (fun _ => 0))), (q278, .inl (cy 1, 8, .inl (fun _ => 0))), (q279, .inl (cy 1, 6, .inl (fun _ => 0)))] H := ⟨hP, hD⟩
  refine W.widen (k := 7) (n := 54) (Nat.le_of_ble_eq_true rfl) (Nat.le_of_ble_eq_true rfl) ?_
  refine va_astq hx hb hK.1 hP hD hS 1 4 4 7 rfl rfl rfl rfl (by unfold vp_in; decide) dX4_init_50 (fun H locs hP hD hS => ?_)
  obtain ⟨hP, hD⟩ : PD G A [(h0, .inr (4, [.ref q270, .ref q271, .ref q272, .int 0, .int 0, .int 0, .int 0, .int 0])), (q270, .inl (cy 4, 7, .inr (.inr (.inr (.inr (va_up (fun _ => none) 0 (some q273))))))), (q271, .inl (cy 1, 6, .inl (fun _ => 0))), (q272, .inl (cy 1, 6, .inl (fun _ => 0))), (q273, .inr (7, [.int 0, .int 0, .int 0, .int 0, .int 0, .long 0, .int 0, .int 0, .int 0, .int 0, .ref q277, .ref q278, .ref q279])), (q277, .inl (cy 1, 8, .inl (fun _ => 0))), (q278, .inl (cy 1, 8, .inl (fun _ => 0))), (q279, .inl (cy 1, 6, .inl (fun _ => 0)))] H := ⟨hP, hD⟩
  refine lv_iinc (v := 1) (lv' := [(1, .int 1), (0, .ref h0)]) hx hb dX4_init_51 hl (k := 0) rfl (by decide) (by decide) rfl (fun ls hl => ?_)
  refine lv_goto (tgt := 31) hx hb dX4_init_54 (by decide) ?_
  refine lv_iload_n hx hb dX4_init_31 rfl (lv_at hl 0 rfl) ?_
  refine lv_bipush (v := 6) hx hb dX4_init_32 (by decide) ?_
  refine lv_icmp_gt (tgt := 57) hx hb dX4_init_34 (by decide) (fun c => absurd c (by decide)) (fun _ => ?_)
  refine lv_aload_n hx hb dX4_init_37 rfl (lv_at hl 1 rfl) ?_
  refine va_get (D := G) (ci := 4) (v := .ref q270) (C := RX4) (T := TX4) (N := 8) hx hb hT iw_X4 hown hK.1 hP 0 rfl rfl 0 (by decide) (hT _ tb_555) (fun _ h9 => h9) rfl dX4_init_38 ?_
  refine lv_iload_n hx hb dX4_init_41 rfl (lv_at hl 0 rfl) ?_
  refine va_new (ci := 7) (fs := [.int 0, .int 0, .int 0, .int 0, .int 0, .long 0, .int 0, .int 0, .int 0, .int 0, .null, .null, .null]) (C := RX7) (T := TX7) (N := 13) hx hb hT iw_X7 tyX7 tyX7_ok hown (hT _ tb_553) (hT _ tb_406) (hT _ tb_115) hK.1 hP hD hS hA rfl nf_X7 (Nat.le_of_ble_eq_true rfl) (Nat.le_of_ble_eq_true rfl) dX4_init_42 (fun q280 H hP hD hS => ?_)
  obtain ⟨hP, hD⟩ : PD G A [(h0, .inr (4, [.ref q270, .ref q271, .ref q272, .int 0, .int 0, .int 0, .int 0, .int 0])), (q270, .inl (cy 4, 7, .inr (.inr (.inr (.inr (va_up (fun _ => none) 0 (some q273))))))), (q271, .inl (cy 1, 6, .inl (fun _ => 0))), (q272, .inl (cy 1, 6, .inl (fun _ => 0))), (q273, .inr (7, [.int 0, .int 0, .int 0, .int 0, .int 0, .long 0, .int 0, .int 0, .int 0, .int 0, .ref q277, .ref q278, .ref q279])), (q277, .inl (cy 1, 8, .inl (fun _ => 0))), (q278, .inl (cy 1, 8, .inl (fun _ => 0))), (q279, .inl (cy 1, 6, .inl (fun _ => 0))), (q280, .inr (7, [.int 0, .int 0, .int 0, .int 0, .int 0, .long 0, .int 0, .int 0, .int 0, .int 0, .null, .null, .null]))] H := ⟨hP, hD⟩
  refine W.widen (k := 8) (n := 67) (Nat.le_of_ble_eq_true rfl) (Nat.le_of_ble_eq_true rfl) ?_
  refine lv_dup hx hb dX4_init_45 rfl ?_
  refine lv_iconst (v := 0) hx hb dX4_init_46 (by decide) ?_
  refine kc_v (W1 := [(q280, .inr (7, [.int 0, .int 0, .int 0, .int 0, .int 0, .long 0, .int 0, .int 0, .int 0, .int 0, .null, .null, .null]))]) (wr := [(h0, .inr (4, [.ref q270, .ref q271, .ref q272, .int 0, .int 0, .int 0, .int 0, .int 0])), (q270, .inl (cy 4, 7, .inr (.inr (.inr (.inr (va_up (fun _ => none) 0 (some q273))))))), (q271, .inl (cy 1, 6, .inl (fun _ => 0))), (q272, .inl (cy 1, 6, .inl (fun _ => 0))), (q273, .inr (7, [.int 0, .int 0, .int 0, .int 0, .int 0, .long 0, .int 0, .int 0, .int 0, .int 0, .ref q277, .ref q278, .ref q279])), (q277, .inl (cy 1, 8, .inl (fun _ => 0))), (q278, .inl (cy 1, 8, .inl (fun _ => 0))), (q279, .inl (cy 1, 6, .inl (fun _ => 0)))]) [8] [0, 1, 2, 3, 4, 5, 6, 7] rfl rfl (by decide) (by decide) hP hD hS hA (va_runI (As := [.int 0]) (rest := [.ref q280, .int 1, .ref q270]) ⟨hx, hb, hml, hown, hT⟩ (cX7_init_1 l G cy ev _ q280) (cwI 1 hT (good_TB tb_409) rfl rfl rfl (hT _ tb_115) (hT _ tb_554) (hT _ tb_408) rfl (by decide +kernel) ⟨Nat.le_of_ble_eq_true rfl, Nat.le_of_ble_eq_true rfl⟩) (PB.preS hK hE hS hA hP hD [8] rfl (by decide)) rfl rfl hl.1 rfl (lv_room (Nat.le_of_ble_eq_true rfl)) dX4_init_47 ⟨Nat.le_of_ble_eq_true rfl, Nat.le_of_ble_eq_true rfl⟩) (fun u H locs hw hP hD hS => ?_)
  obtain ⟨q284, q285, q286⟩ := u
  obtain ⟨hP, hD⟩ : PD G A [(h0, .inr (4, [.ref q270, .ref q271, .ref q272, .int 0, .int 0, .int 0, .int 0, .int 0])), (q270, .inl (cy 4, 7, .inr (.inr (.inr (.inr (va_up (fun _ => none) 0 (some q273))))))), (q271, .inl (cy 1, 6, .inl (fun _ => 0))), (q272, .inl (cy 1, 6, .inl (fun _ => 0))), (q273, .inr (7, [.int 0, .int 0, .int 0, .int 0, .int 0, .long 0, .int 0, .int 0, .int 0, .int 0, .ref q277, .ref q278, .ref q279])), (q277, .inl (cy 1, 8, .inl (fun _ => 0))), (q278, .inl (cy 1, 8, .inl (fun _ => 0))), (q279, .inl (cy 1, 6, .inl (fun _ => 0))), (q280, .inr (7, [.int 0, .int 0, .int 0, .int 0, .int 0, .long 0, .int 0, .int 0, .int 0, .int 0, .ref q284, .ref q285, .ref q286])), (q284, .inl (cy 1, 8, .inl (fun _ => 0))), (q285, .inl (cy 1, 8, .inl (fun _ => 0))), (q286, .inl (cy 1, 6, .inl (fun _ => 0)))] H := ⟨hP, hD⟩
  refine W.widen (k := 11) (n := 89) (Nat.le_of_ble_eq_true rfl) (Nat.le_of_ble_eq_true rfl) ?_
  refine va_astq hx hb hK.1 hP hD hS 1 4 8 7 rfl rfl rfl rfl (by unfold vp_in; decide) dX4_init_50 (fun H locs hP hD hS => ?_)
  rw [up_swap (j := 0) (k := (1 : Int32).toNatClampNeg) (by decide)] at hP hD
  obtain ⟨y287, hP, hD⟩ : ∃ y287 : Nat → Option Nat, PD G A [(h0, .inr (4, [.ref q270, .ref q271, .ref q272, .int 0, .int 0, .int 0, .int 0, .int 0])), (q270, .inl (cy 4, 7, .inr (.inr (.inr (.inr (va_up y287 0 (some q273))))))), (q271, .inl (cy 1, 6, .inl (fun _ => 0))), (q272, .inl (cy 1, 6, .inl (fun _ => 0))), (q273, .inr (7, [.int 0, .int 0, .int 0, .int 0, .int 0, .long 0, .int 0, .int 0, .int 0, .int 0, .ref q277, .ref q278, .ref q279])), (q277, .inl (cy 1, 8, .inl (fun _ => 0))), (q278, .inl (cy 1, 8, .inl (fun _ => 0))), (q279, .inl (cy 1, 6, .inl (fun _ => 0)))] H := ⟨_, hP.sub [0, 1, 2, 3, 4, 5, 6, 7] rfl, hD.sub [0, 1, 2, 3, 4, 5, 6, 7] (by decide) rfl⟩
  refine lv_iinc (v := 2) (lv' := [(1, .int 2), (0, .ref h0)]) hx hb dX4_init_51 hl (k := 0) rfl (by decide) (by decide) rfl (fun ls hl => ?_)
  refine lv_goto (tgt := 31) hx hb dX4_init_54 (by decide) ?_
  refine lv_iload_n hx hb dX4_init_31 rfl (lv_at hl 0 rfl) ?_
  refine lv_bipush (v := 6) hx hb dX4_init_32 (by decide) ?_
  refine lv_icmp_gt (tgt := 57) hx hb dX4_init_34 (by decide) (fun c => absurd c (by decide)) (fun _ => ?_)
  refine lv_aload_n hx hb dX4_init_37 rfl (lv_at hl 1 rfl) ?_
  refine va_get (D := G) (ci := 4) (v := .ref q270) (C := RX4) (T := TX4) (N := 8) hx hb hT iw_X4 hown hK.1 hP 0 rfl rfl 0 (by decide) (hT _ tb_555) (fun _ h9 => h9) rfl dX4_init_38 ?_
  refine lv_iload_n hx hb dX4_init_41 rfl (lv_at hl 0 rfl) ?_
  refine va_new (ci := 7) (fs := [.int 0, .int 0, .int 0, .int 0, .int 0, .long 0, .int 0, .int 0, .int 0, .int 0, .null, .null, .null]) (C := RX7) (T := TX7) (N := 13) hx hb hT iw_X7 tyX7 tyX7_ok hown (hT _ tb_553) (hT _ tb_406) (hT _ tb_115) hK.1 hP hD hS hA rfl nf_X7 (Nat.le_of_ble_eq_true rfl) (Nat.le_of_ble_eq_true rfl) dX4_init_42 (fun q288 H hP hD hS => ?_)
  obtain ⟨hP, hD⟩ : PD G A [(h0, .inr (4, [.ref q270, .ref q271, .ref q272, .int 0, .int 0, .int 0, .int 0, .int 0])), (q270, .inl (cy 4, 7, .inr (.inr (.inr (.inr (va_up y287 0 (some q273))))))), (q271, .inl (cy 1, 6, .inl (fun _ => 0))), (q272, .inl (cy 1, 6, .inl (fun _ => 0))), (q273, .inr (7, [.int 0, .int 0, .int 0, .int 0, .int 0, .long 0, .int 0, .int 0, .int 0, .int 0, .ref q277, .ref q278, .ref q279])), (q277, .inl (cy 1, 8, .inl (fun _ => 0))), (q278, .inl (cy 1, 8, .inl (fun _ => 0))), (q279, .inl (cy 1, 6, .inl (fun _ => 0))), (q288, .inr (7, [.int 0, .int 0, .int 0, .int 0, .int 0, .long 0, .int 0, .int 0, .int 0, .int 0, .null, .null, .null]))] H := ⟨hP, hD⟩
  refine W.widen (k := 12) (n := 102) (Nat.le_of_ble_eq_true rfl) (Nat.le_of_ble_eq_true rfl) ?_
  refine lv_dup hx hb dX4_init_45 rfl ?_
  refine lv_iconst (v := 0) hx hb dX4_init_46 (by decide) ?_
  refine kc_v (W1 := [(q288, .inr (7, [.int 0, .int 0, .int 0, .int 0, .int 0, .long 0, .int 0, .int 0, .int 0, .int 0, .null, .null, .null]))]) (wr := [(h0, .inr (4, [.ref q270, .ref q271, .ref q272, .int 0, .int 0, .int 0, .int 0, .int 0])), (q270, .inl (cy 4, 7, .inr (.inr (.inr (.inr (va_up y287 0 (some q273))))))), (q271, .inl (cy 1, 6, .inl (fun _ => 0))), (q272, .inl (cy 1, 6, .inl (fun _ => 0))), (q273, .inr (7, [.int 0, .int 0, .int 0, .int 0, .int 0, .long 0, .int 0, .int 0, .int 0, .int 0, .ref q277, .ref q278, .ref q279])), (q277, .inl (cy 1, 8, .inl (fun _ => 0))), (q278, .inl (cy 1, 8, .inl (fun _ => 0))), (q279, .inl (cy 1, 6, .inl (fun _ => 0)))]) [8] [0, 1, 2, 3, 4, 5, 6, 7] rfl rfl (by decide) (by decide) hP hD hS hA (va_runI (As := [.int 0]) (rest := [.ref q288, .int 2, .ref q270]) ⟨hx, hb, hml, hown, hT⟩ (cX7_init_1 l G cy ev _ q288) (cwI 1 hT (good_TB tb_409) rfl rfl rfl (hT _ tb_115) (hT _ tb_554) (hT _ tb_408) rfl (by decide +kernel) ⟨Nat.le_of_ble_eq_true rfl, Nat.le_of_ble_eq_true rfl⟩) (PB.preS hK hE hS hA hP hD [8] rfl (by decide)) rfl rfl hl.1 rfl (lv_room (Nat.le_of_ble_eq_true rfl)) dX4_init_47 ⟨Nat.le_of_ble_eq_true rfl, Nat.le_of_ble_eq_true rfl⟩) (fun u H locs hw hP hD hS => ?_)
  obtain ⟨q292, q293, q294⟩ := u
  obtain ⟨hP, hD⟩ : PD G A [(h0, .inr (4, [.ref q270, .ref q271, .ref q272, .int 0, .int 0, .int 0, .int 0, .int 0])), (q270, .inl (cy 4, 7, .inr (.inr (.inr (.inr (va_up y287 0 (some q273))))))), (q271, .inl (cy 1, 6, .inl (fun _ => 0))), (q272, .inl (cy 1, 6, .inl (fun _ => 0))), (q273, .inr (7, [.int 0, .int 0, .int 0, .int 0, .int 0, .long 0, .int 0, .int 0, .int 0, .int 0, .ref q277, .ref q278, .ref q279])), (q277, .inl (cy 1, 8, .inl (fun _ => 0))), (q278, .inl (cy 1, 8, .inl (fun _ => 0))), (q279, .inl (cy 1, 6, .inl (fun _ => 0))), (q288, .inr (7, [.int 0, .int 0, .int 0, .int 0, .int 0, .long 0, .int 0, .int 0, .int 0, .int 0, .ref q292, .ref q293, .ref q294])), (q292, .inl (cy 1, 8, .inl (fun _ => 0))), (q293, .inl (cy 1, 8, .inl (fun _ => 0))), (q294, .inl (cy 1, 6, .inl (fun _ => 0)))] H := ⟨hP, hD⟩
  refine W.widen (k := 15) (n := 124) (Nat.le_of_ble_eq_true rfl) (Nat.le_of_ble_eq_true rfl) ?_
  refine va_astq hx hb hK.1 hP hD hS 1 4 8 7 rfl rfl rfl rfl (by unfold vp_in; decide) dX4_init_50 (fun H locs hP hD hS => ?_)
  rw [up_swap (j := 0) (k := (2 : Int32).toNatClampNeg) (by decide)] at hP hD
  obtain ⟨y295, hP, hD⟩ : ∃ y295 : Nat → Option Nat, PD G A [(h0, .inr (4, [.ref q270, .ref q271, .ref q272, .int 0, .int 0, .int 0, .int 0, .int 0])), (q270, .inl (cy 4, 7, .inr (.inr (.inr (.inr (va_up y295 0 (some q273))))))), (q271, .inl (cy 1, 6, .inl (fun _ => 0))), (q272, .inl (cy 1, 6, .inl (fun _ => 0))), (q273, .inr (7, [.int 0, .int 0, .int 0, .int 0, .int 0, .long 0, .int 0, .int 0, .int 0, .int 0, .ref q277, .ref q278, .ref q279])), (q277, .inl (cy 1, 8, .inl (fun _ => 0))), (q278, .inl (cy 1, 8, .inl (fun _ => 0))), (q279, .inl (cy 1, 6, .inl (fun _ => 0)))] H := ⟨_, hP.sub [0, 1, 2, 3, 4, 5, 6, 7] rfl, hD.sub [0, 1, 2, 3, 4, 5, 6, 7] (by decide) rfl⟩
  refine lv_iinc (v := 3) (lv' := [(1, .int 3), (0, .ref h0)]) hx hb dX4_init_51 hl (k := 0) rfl (by decide) (by decide) rfl (fun ls hl => ?_)
  refine lv_goto (tgt := 31) hx hb dX4_init_54 (by decide) ?_
  refine lv_iload_n hx hb dX4_init_31 rfl (lv_at hl 0 rfl) ?_
  refine lv_bipush (v := 6) hx hb dX4_init_32 (by decide) ?_
  refine lv_icmp_gt (tgt := 57) hx hb dX4_init_34 (by decide) (fun c => absurd c (by decide)) (fun _ => ?_)
  refine lv_aload_n hx hb dX4_init_37 rfl (lv_at hl 1 rfl) ?_
  refine va_get (D := G) (ci := 4) (v := .ref q270) (C := RX4) (T := TX4) (N := 8) hx hb hT iw_X4 hown hK.1 hP 0 rfl rfl 0 (by decide) (hT _ tb_555) (fun _ h9 => h9) rfl dX4_init_38 ?_
  refine lv_iload_n hx hb dX4_init_41 rfl (lv_at hl 0 rfl) ?_
  refine va_new (ci := 7) (fs := [.int 0, .int 0, .int 0, .int 0, .int 0, .long 0, .int 0, .int 0, .int 0, .int 0, .null, .null, .null]) (C := RX7) (T := TX7) (N := 13) hx hb hT iw_X7 tyX7 tyX7_ok hown (hT _ tb_553) (hT _ tb_406) (hT _ tb_115) hK.1 hP hD hS hA rfl nf_X7 (Nat.le_of_ble_eq_true rfl) (Nat.le_of_ble_eq_true rfl) dX4_init_42 (fun q296 H hP hD hS => ?_)
  obtain ⟨hP, hD⟩ : PD G A [(h0, .inr (4, [.ref q270, .ref q271, .ref q272, .int 0, .int 0, .int 0, .int 0, .int 0])), (q270, .inl (cy 4, 7, .inr (.inr (.inr (.inr (va_up y295 0 (some q273))))))), (q271, .inl (cy 1, 6, .inl (fun _ => 0))), (q272, .inl (cy 1, 6, .inl (fun _ => 0))), (q273, .inr (7, [.int 0, .int 0, .int 0, .int 0, .int 0, .long 0, .int 0, .int 0, .int 0, .int 0, .ref q277, .ref q278, .ref q279])), (q277, .inl (cy 1, 8, .inl (fun _ => 0))), (q278, .inl (cy 1, 8, .inl (fun _ => 0))), (q279, .inl (cy 1, 6, .inl (fun _ => 0))), (q296, .inr (7, [.int 0, .int 0, .int 0, .int 0, .int 0, .long 0, .int 0, .int 0, .int 0, .int 0, .null, .null, .null]))] H := ⟨hP, hD⟩
  refine W.widen (k := 16) (n := 137) (Nat.le_of_ble_eq_true rfl) (Nat.le_of_ble_eq_true rfl) ?_
  refine lv_dup hx hb dX4_init_45 rfl ?_
  refine lv_iconst (v := 0) hx hb dX4_init_46 (by decide) ?_
  refine kc_v (W1 := [(q296, .inr (7, [.int 0, .int 0, .int 0, .int 0, .int 0, .long 0, .int 0, .int 0, .int 0, .int 0, .null, .null, .null]))]) (wr := [(h0, .inr (4, [.ref q270, .ref q271, .ref q272, .int 0, .int 0, .int 0, .int 0, .int 0])), (q270, .inl (cy 4, 7, .inr (.inr (.inr (.inr (va_up y295 0 (some q273))))))), (q271, .inl (cy 1, 6, .inl (fun _ => 0))), (q272, .inl (cy 1, 6, .inl (fun _ => 0))), (q273, .inr (7, [.int 0, .int 0, .int 0, .int 0, .int 0, .long 0, .int 0, .int 0, .int 0, .int 0, .ref q277, .ref q278, .ref q279])), (q277, .inl (cy 1, 8, .inl (fun _ => 0))), (q278, .inl (cy 1, 8, .inl (fun _ => 0))), (q279, .inl (cy 1, 6, .inl (fun _ => 0)))]) [8] [0, 1, 2, 3, 4, 5, 6, 7] rfl rfl (by decide) (by decide) hP hD hS hA (va_runI (As := [.int 0]) (rest := [.ref q296, .int 3, .ref q270]) ⟨hx, hb, hml, hown, hT⟩ (cX7_init_1 l G cy ev _ q296) (cwI 1 hT (good_TB tb_409) rfl rfl rfl (hT _ tb_115) (hT _ tb_554) (hT _ tb_408) rfl (by decide +kernel) ⟨Nat.le_of_ble_eq_true rfl, Nat.le_of_ble_eq_true rfl⟩) (PB.preS hK hE hS hA hP hD [8] rfl (by decide)) rfl rfl hl.1 rfl (lv_room (Nat.le_of_ble_eq_true rfl)) dX4_init_47 ⟨Nat.le_of_ble_eq_true rfl, Nat.le_of_ble_eq_true rfl⟩) (fun u H locs hw hP hD hS => ?_)
  obtain ⟨q300, q301, q302⟩ := u
  obtain ⟨hP, hD⟩ : PD G A [(h0, .inr (4, [.ref q270, .ref q271, .ref q272, .int 0, .int 0, .int 0, .int 0, .int 0])), (q270, .inl (cy 4, 7, .inr (.inr (.inr (.inr (va_up y295 0 (some q273))))))), (q271, .inl (cy 1, 6, .inl (fun _ => 0))), (q272, .inl (cy 1, 6, .inl (fun _ => 0))), (q273, .inr (7, [.int 0, .int 0, .int 0, .int 0, .int 0, .long 0, .int 0, .int 0, .int 0, .int 0, .ref q277, .ref q278, .ref q279])), (q277, .inl (cy 1, 8, .inl (fun _ => 0))), (q278, .inl (cy 1, 8, .inl (fun _ => 0))), (q279, .inl (cy 1, 6, .inl (fun _ => 0))), (q296, .inr (7, [.int 0, .int 0, .int 0, .int 0, .int 0, .long 0, .int 0, .int 0, .int 0, .int 0, .ref q300, .ref q301, .ref q302])), (q300, .inl (cy 1, 8, .inl (fun _ => 0))), (q301, .inl (cy 1, 8, .inl (fun _ => 0))), (q302, .inl (cy 1, 6, .inl (fun _ => 0)))] H := ⟨hP, hD⟩
  refine W.widen (k := 19) (n := 159) (Nat.le_of_ble_eq_true rfl) (Nat.le_of_ble_eq_true rfl) ?_
  refine va_astq hx hb hK.1 hP hD hS 1 4 8 7 rfl rfl rfl rfl (by unfold vp_in; decide) dX4_init_50 (fun H locs hP hD hS => ?_)
  rw [up_swap (j := 0) (k := (3 : Int32).toNatClampNeg) (by decide)] at hP hD
  obtain ⟨y303, hP, hD⟩ : ∃ y303 : Nat → Option Nat, PD G A [(h0, .inr (4, [.ref q270, .ref q271, .ref q272, .int 0, .int 0, .int 0, .int 0, .int 0])), (q270, .inl (cy 4, 7, .inr (.inr (.inr (.inr (va_up y303 0 (some q273))))))), (q271, .inl (cy 1, 6, .inl (fun _ => 0))), (q272, .inl (cy 1, 6, .inl (fun _ => 0))), (q273, .inr (7, [.int 0, .int 0, .int 0, .int 0, .int 0, .long 0, .int 0, .int 0, .int 0, .int 0, .ref q277, .ref q278, .ref q279])), (q277, .inl (cy 1, 8, .inl (fun _ => 0))), (q278, .inl (cy 1, 8, .inl (fun _ => 0))), (q279, .inl (cy 1, 6, .inl (fun _ => 0)))] H := ⟨_, hP.sub [0, 1, 2, 3, 4, 5, 6, 7] rfl, hD.sub [0, 1, 2, 3, 4, 5, 6, 7] (by decide) rfl⟩
  refine lv_iinc (v := 4) (lv' := [(1, .int 4), (0, .ref h0)]) hx hb dX4_init_51 hl (k := 0) rfl (by decide) (by decide) rfl (fun ls hl => ?_)
  refine lv_goto (tgt := 31) hx hb dX4_init_54 (by decide) ?_
  refine lv_iload_n hx hb dX4_init_31 rfl (lv_at hl 0 rfl) ?_
  refine lv_bipush (v := 6) hx hb dX4_init_32 (by decide) ?_
  refine lv_icmp_gt (tgt := 57) hx hb dX4_init_34 (by decide) (fun c => absurd c (by decide)) (fun _ => ?_)
  refine lv_aload_n hx hb dX4_init_37 rfl (lv_at hl 1 rfl) ?_
  refine va_get (D := G) (ci := 4) (v := .ref q270) (C := RX4) (T := TX4) (N := 8) hx hb hT iw_X4 hown hK.1 hP 0 rfl rfl 0 (by decide) (hT _ tb_555) (fun _ h9 => h9) rfl dX4_init_38 ?_
  refine lv_iload_n hx hb dX4_init_41 rfl (lv_at hl 0 rfl) ?_
  refine va_new (ci := 7) (fs := [.int 0, .int 0, .int 0, .int 0, .int 0, .long 0, .int 0, .int 0, .int 0, .int 0, .null, .null, .null]) (C := RX7) (T := TX7) (N := 13) hx hb hT iw_X7 tyX7 tyX7_ok hown (hT _ tb_553) (hT _ tb_406) (hT _ tb_115) hK.1 hP hD hS hA rfl nf_X7 (Nat.le_of_ble_eq_true rfl) (Nat.le_of_ble_eq_true rfl) dX4_init_42 (fun q304 H hP hD hS => ?_)
  obtain ⟨hP, hD⟩ : PD G A [(h0, .inr (4, [.ref q270, .ref q271, .ref q272, .int 0, .int 0, .int 0, .int 0, .int 0])), (q270, .inl (cy 4, 7, .inr (.inr (.inr (.inr (va_up y303 0 (some q273))))))), (q271, .inl (cy 1, 6, .inl (fun _ => 0))), (q272, .inl (cy 1, 6, .inl (fun _ => 0))), (q273, .inr (7, [.int 0, .int 0, .int 0, .int 0, .int 0, .long 0, .int 0, .int 0, .int 0, .int 0, .ref q277, .ref q278, .ref q279])), (q277, .inl (cy 1, 8, .inl (fun _ => 0))), (q278, .inl (cy 1, 8, .inl (fun _ => 0))), (q279, .inl (cy 1, 6, .inl (fun _ => 0))), (q304, .inr (7, [.int 0, .int 0, .int 0, .int 0, .int 0, .long 0, .int 0, .int 0, .int 0, .int 0, .null, .null, .null]))] H := ⟨hP, hD⟩
  refine W.widen (k := 20) (n := 172) (Nat.le_of_ble_eq_true rfl) (Nat.le_of_ble_eq_true rfl) ?_
  refine lv_dup hx hb dX4_init_45 rfl ?_
  refine lv_iconst (v := 0) hx hb dX4_init_46 (by decide) ?_
  refine kc_v (W1 := [(q304, .inr (7, [.int 0, .int 0, .int 0, .int 0, .int 0, .long 0, .int 0, .int 0, .int 0, .int 0, .null, .null, .null]))]) (wr := [(h0, .inr (4, [.ref q270, .ref q271, .ref q272, .int 0, .int 0, .int 0, .int 0, .int 0])), (q270, .inl (cy 4, 7, .inr (.inr (.inr (.inr (va_up y303 0 (some q273))))))), (q271, .inl (cy 1, 6, .inl (fun _ => 0))), (q272, .inl (cy 1, 6, .inl (fun _ => 0))), (q273, .inr (7, [.int 0, .int 0, .int 0, .int 0, .int 0, .long 0, .int 0, .int 0, .int 0, .int 0, .ref q277, .ref q278, .ref q279])), (q277, .inl (cy 1, 8, .inl (fun _ => 0))), (q278, .inl (cy 1, 8, .inl (fun _ => 0))), (q279, .inl (cy 1, 6, .inl (fun _ => 0)))]) [8] [0, 1, 2, 3, 4, 5, 6, 7] rfl rfl (by decide) (by decide) hP hD hS hA (va_runI (As := [.int 0]) (rest := [.ref q304, .int 4, .ref q270]) ⟨hx, hb, hml, hown, hT⟩ (cX7_init_1 l G cy ev _ q304) (cwI 1 hT (good_TB tb_409) rfl rfl rfl (hT _ tb_115) (hT _ tb_554) (hT _ tb_408) rfl (by decide +kernel) ⟨Nat.le_of_ble_eq_true rfl, Nat.le_of_ble_eq_true rfl⟩) (PB.preS hK hE hS hA hP hD [8] rfl (by decide)) rfl rfl hl.1 rfl (lv_room (Nat.le_of_ble_eq_true rfl)) dX4_init_47 ⟨Nat.le_of_ble_eq_true rfl, Nat.le_of_ble_eq_true rfl⟩) (fun u H locs hw hP hD hS => ?_)
  obtain ⟨q308, q309, q310⟩ := u
  obtain ⟨hP, hD⟩ : PD G A [(h0, .inr (4, [.ref q270, .ref q271, .ref q272, .int 0, .int 0, .int 0, .int 0, .int 0])), (q270, .inl (cy 4, 7, .inr (.inr (.inr (.inr (va_up y303 0 (some q273))))))), (q271, .inl (cy 1, 6, .inl (fun _ => 0))), (q272, .inl (cy 1, 6, .inl (fun _ => 0))), (q273, .inr (7, [.int 0, .int 0, .int 0, .int 0, .int 0, .long 0, .int 0, .int 0, .int 0, .int 0, .ref q277, .ref q278, .ref q279])), (q277, .inl (cy 1, 8, .inl (fun _ => 0))), (q278, .inl (cy 1, 8, .inl (fun _ => 0))), (q279, .inl (cy 1, 6, .inl (fun _ => 0))), (q304, .inr (7, [.int 0, .int 0, .int 0, .int 0, .int 0, .long 0, .int 0, .int 0, .int 0, .int 0, .ref q308, .ref q309, .ref q310])), (q308, .inl (cy 1, 8, .inl (fun _ => 0))), (q309, .inl (cy 1, 8, .inl (fun _ => 0))), (q310, .inl (cy 1, 6, .inl (fun _ => 0)))] H := ⟨hP, hD⟩
  refine W.widen (k := 23) (n := 194) (Nat.le_of_ble_eq_true rfl) (Nat.le_of_ble_eq_true rfl) ?_
  refine va_astq hx hb hK.1 hP hD hS 1 4 8 7 rfl rfl rfl rfl (by unfold vp_in; decide) dX4_init_50 (fun H locs hP hD hS => ?_)
  rw [up_swap (j := 0) (k := (4 : Int32).toNatClampNeg) (by decide)] at hP hD
  obtain ⟨y311, hP, hD⟩ : ∃ y311 : Nat → Option Nat, PD G A [(h0, .inr (4, [.ref q270, .ref q271, .ref q272, .int 0, .int 0, .int 0, .int 0, .int 0])), (q270, .inl (cy 4, 7, .inr (.inr (.inr (.inr (va_up y311 0 (some q273))))))), (q271, .inl (cy 1, 6, .inl (fun _ => 0))), (q272, .inl (cy 1, 6, .inl (fun _ => 0))), (q273, .inr (7, [.int 0, .int 0, .int 0, .int 0, .int 0, .long 0, .int 0, .int 0, .int 0, .int 0, .ref q277, .ref q278, .ref q279])), (q277, .inl (cy 1, 8, .inl (fun _ => 0))), (q278, .inl (cy 1, 8, .inl (fun _ => 0))), (q279, .inl (cy 1, 6, .inl (fun _ => 0)))] H := ⟨_, hP.sub [0, 1, 2, 3, 4, 5, 6, 7] rfl, hD.sub [0, 1, 2, 3, 4, 5, 6, 7] (by decide) rfl⟩
  refine lv_iinc (v := 5) (lv' := [(1, .int 5), (0, .ref h0)]) hx hb dX4_init_51 hl (k := 0) rfl (by decide) (by decide) rfl (fun ls hl => ?_)
  refine lv_goto (tgt := 31) hx hb dX4_init_54 (by decide) ?_
  refine lv_iload_n hx hb dX4_init_31 rfl (lv_at hl 0 rfl) ?_
  refine lv_bipush (v := 6) hx hb dX4_init_32 (by decide) ?_
  refine lv_icmp_gt (tgt := 57) hx hb dX4_init_34 (by decide) (fun c => absurd c (by decide)) (fun _ => ?_)
  refine lv_aload_n hx hb dX4_init_37 rfl (lv_at hl 1 rfl) ?_
  refine va_get (D := G) (ci := 4) (v := .ref q270) (C := RX4) (T := TX4) (N := 8) hx hb hT iw_X4 hown hK.1 hP 0 rfl rfl 0 (by decide) (hT _ tb_555) (fun _ h9 => h9) rfl dX4_init_38 ?_
  refine lv_iload_n hx hb dX4_init_41 rfl (lv_at hl 0 rfl) ?_
  refine va_new (ci := 7) (fs := [.int 0, .int 0, .int 0, .int 0, .int 0, .long 0, .int 0, .int 0, .int 0, .int 0, .null, .null, .null]) (C := RX7) (T := TX7) (N := 13) hx hb hT iw_X7 tyX7 tyX7_ok hown (hT _ tb_553) (hT _ tb_406) (hT _ tb_115) hK.1 hP hD hS hA rfl nf_X7 (Nat.le_of_ble_eq_true rfl) (Nat.le_of_ble_eq_true rfl) dX4_init_42 (fun q312 H hP hD hS => ?_)
  obtain ⟨hP, hD⟩ : PD G A [(h0, .inr (4, [.ref q270, .ref q271, .ref q272, .int 0, .int 0, .int 0, .int 0, .int 0])), (q270, .inl (cy 4, 7, .inr (.inr (.inr (.inr (va_up y311 0 (some q273))))))), (q271, .inl (cy 1, 6, .inl (fun _ => 0))), (q272, .inl (cy 1, 6, .inl (fun _ => 0))), (q273, .inr (7, [.int 0, .int 0, .int 0, .int 0, .int 0, .long 0, .int 0, .int 0, .int 0, .int 0, .ref q277, .ref q278, .ref q279])), (q277, .inl (cy 1, 8, .inl (fun _ => 0))), (q278, .inl (cy 1, 8, .inl (fun _ => 0))), (q279, .inl (cy 1, 6, .inl (fun _ => 0))), (q312, .inr (7, [.int 0, .int 0, .int 0, .int 0, .int 0, .long 0, .int 0, .int 0, .int 0, .int 0, .null, .null, .null]))] H := ⟨hP, hD⟩
  refine W.widen (k := 24) (n := 207) (Nat.le_of_ble_eq_true rfl) (Nat.le_of_ble_eq_true rfl) ?_
  refine lv_dup hx hb dX4_init_45 rfl ?_
  refine lv_iconst (v := 0) hx hb dX4_init_46 (by decide) ?_
  refine kc_v (W1 := [(q312, .inr (7, [.int 0, .int 0, .int 0, .int 0, .int 0, .long 0, .int 0, .int 0, .int 0, .int 0, .null, .null, .null]))]) (wr := [(h0, .inr (4, [.ref q270, .ref q271, .ref q272, .int 0, .int 0, .int 0, .int 0, .int 0])), (q270, .inl (cy 4, 7, .inr (.inr (.inr (.inr (va_up y311 0 (some q273))))))), (q271, .inl (cy 1, 6, .inl (fun _ => 0))), (q272, .inl (cy 1, 6, .inl (fun _ => 0))), (q273, .inr (7, [.int 0, .int 0, .int 0, .int 0, .int 0, .long 0, .int 0, .int 0, .int 0, .int 0, .ref q277, .ref q278, .ref q279])), (q277, .inl (cy 1, 8, .inl (fun _ => 0))), (q278, .inl (cy 1, 8, .inl (fun _ => 0))), (q279, .inl (cy 1, 6, .inl (fun _ => 0)))]) [8] [0, 1, 2, 3, 4, 5, 6, 7] rfl rfl (by decide) (by decide) hP hD hS hA (va_runI (As := [.int 0]) (rest := [.ref q312, .int 5, .ref q270]) ⟨hx, hb, hml, hown, hT⟩ (cX7_init_1 l G cy ev _ q312) (cwI 1 hT (good_TB tb_409) rfl rfl rfl (hT _ tb_115) (hT _ tb_554) (hT _ tb_408) rfl (by decide +kernel) ⟨Nat.le_of_ble_eq_true rfl, Nat.le_of_ble_eq_true rfl⟩) (PB.preS hK hE hS hA hP hD [8] rfl (by decide)) rfl rfl hl.1 rfl (lv_room (Nat.le_of_ble_eq_true rfl)) dX4_init_47 ⟨Nat.le_of_ble_eq_true rfl, Nat.le_of_ble_eq_true rfl⟩) (fun u H locs hw hP hD hS => ?_)
  obtain ⟨q316, q317, q318⟩ := u
  obtain ⟨hP, hD⟩ : PD G A [(h0, .inr (4, [.ref q270, .ref q271, .ref q272, .int 0, .int 0, .int 0, .int 0, .int 0])), (q270, .inl (cy 4, 7, .inr (.inr (.inr (.inr (va_up y311 0 (some q273))))))), (q271, .inl (cy 1, 6, .inl (fun _ => 0))), (q272, .inl (cy 1, 6, .inl (fun _ => 0))), (q273, .inr (7, [.int 0, .int 0, .int 0, .int 0, .int 0, .long 0, .int 0, .int 0, .int 0, .int 0, .ref q277, .ref q278, .ref q279])), (q277, .inl (cy 1, 8, .inl (fun _ => 0))), (q278, .inl (cy 1, 8, .inl (fun _ => 0))), (q279, .inl (cy 1, 6, .inl (fun _ => 0))), (q312, .inr (7, [.int 0, .int 0, .int 0, .int 0, .int 0, .long 0, .int 0, .int 0, .int 0, .int 0, .ref q316, .ref q317, .ref q318])), (q316, .inl (cy 1, 8, .inl (fun _ => 0))), (q317, .inl (cy 1, 8, .inl (fun _ => 0))), (q318, .inl (cy 1, 6, .inl (fun _ => 0)))] H := ⟨hP, hD⟩
  refine W.widen (k := 27) (n := 229) (Nat.le_of_ble_eq_true rfl) (Nat.le_of_ble_eq_true rfl) ?_
  refine va_astq hx hb hK.1 hP hD hS 1 4 8 7 rfl rfl rfl rfl (by unfold vp_in; decide) dX4_init_50 (fun H locs hP hD hS => ?_)
  rw [up_swap (j := 0) (k := (5 : Int32).toNatClampNeg) (by decide)] at hP hD
  obtain ⟨y319, hP, hD⟩ : ∃ y319 : Nat → Option Nat, PD G A [(h0, .inr (4, [.ref q270, .ref q271, .ref q272, .int 0, .int 0, .int 0, .int 0, .int 0])), (q270, .inl (cy 4, 7, .inr (.inr (.inr (.inr (va_up y319 0 (some q273))))))), (q271, .inl (cy 1, 6, .inl (fun _ => 0))), (q272, .inl (cy 1, 6, .inl (fun _ => 0))), (q273, .inr (7, [.int 0, .int 0, .int 0, .int 0, .int 0, .long 0, .int 0, .int 0, .int 0, .int 0, .ref q277, .ref q278, .ref q279])), (q277, .inl (cy 1, 8, .inl (fun _ => 0))), (q278, .inl (cy 1, 8, .inl (fun _ => 0))), (q279, .inl (cy 1, 6, .inl (fun _ => 0)))] H := ⟨_, hP.sub [0, 1, 2, 3, 4, 5, 6, 7] rfl, hD.sub [0, 1, 2, 3, 4, 5, 6, 7] (by decide) rfl⟩
  refine lv_iinc (v := 6) (lv' := [(1, .int 6), (0, .ref h0)]) hx hb dX4_init_51 hl (k := 0) rfl (by decide) (by decide) rfl (fun ls hl => ?_)
  refine lv_goto (tgt := 31) hx hb dX4_init_54 (by decide) ?_
  refine lv_iload_n hx hb dX4_init_31 rfl (lv_at hl 0 rfl) ?_
  refine lv_bipush (v := 6) hx hb dX4_init_32 (by decide) ?_
  refine lv_icmp_gt (tgt := 57) hx hb dX4_init_34 (by decide) (fun c => absurd c (by decide)) (fun _ => ?_)
  refine lv_aload_n hx hb dX4_init_37 rfl (lv_at hl 1 rfl) ?_
  refine va_get (D := G) (ci := 4) (v := .ref q270) (C := RX4) (T := TX4) (N := 8) hx hb hT iw_X4 hown hK.1 hP 0 rfl rfl 0 (by decide) (hT _ tb_555) (fun _ h9 => h9) rfl dX4_init_38 ?_
  refine lv_iload_n hx hb dX4_init_41 rfl (lv_at hl 0 rfl) ?_
  refine va_new (ci := 7) (fs := [.int 0, .int 0, .int 0, .int 0, .int 0, .long 0, .int 0, .int 0, .int 0, .int 0, .null, .null, .null]) (C := RX7) (T := TX7) (N := 13) hx hb hT iw_X7 tyX7 tyX7_ok hown (hT _ tb_553) (hT _ tb_406) (hT _ tb_115) hK.1 hP hD hS hA rfl nf_X7 (Nat.le_of_ble_eq_true rfl) (Nat.le_of_ble_eq_true rfl) dX4_init_42 (fun q320 H hP hD hS => ?_)
  obtain ⟨hP, hD⟩ : PD G A [(h0, .inr (4, [.ref q270, .ref q271, .ref q272, .int 0, .int 0, .int 0, .int 0, .int 0])), (q270, .inl (cy 4, 7, .inr (.inr (.inr (.inr (va_up y319 0 (some q273))))))), (q271, .inl (cy 1, 6, .inl (fun _ => 0))), (q272, .inl (cy 1, 6, .inl (fun _ => 0))), (q273, .inr (7, [.int 0, .int 0, .int 0, .int 0, .int 0, .long 0, .int 0, .int 0, .int 0, .int 0, .ref q277, .ref q278, .ref q279])), (q277, .inl (cy 1, 8, .inl (fun _ => 0))), (q278, .inl (cy 1, 8, .inl (fun _ => 0))), (q279, .inl (cy 1, 6, .inl (fun _ => 0))), (q320, .inr (7, [.int 0, .int 0, .int 0, .int 0, .int 0, .long 0, .int 0, .int 0, .int 0, .int 0, .null, .null, .null]))] H := ⟨hP, hD⟩
  refine W.widen (k := 28) (n := 242) (Nat.le_of_ble_eq_true rfl) (Nat.le_of_ble_eq_true rfl) ?_
  refine lv_dup hx hb dX4_init_45 rfl ?_
  refine lv_iconst (v := 0) hx hb dX4_init_46 (by decide) ?_
  refine kc_v (W1 := [(q320, .inr (7, [.int 0, .int 0, .int 0, .int 0, .int 0, .long 0, .int 0, .int 0, .int 0, .int 0, .null, .null, .null]))]) (wr := [(h0, .inr (4, [.ref q270, .ref q271, .ref q272, .int 0, .int 0, .int 0, .int 0, .int 0])), (q270, .inl (cy 4, 7, .inr (.inr (.inr (.inr (va_up y319 0 (some q273))))))), (q271, .inl (cy 1, 6, .inl (fun _ => 0))), (q272, .inl (cy 1, 6, .inl (fun _ => 0))), (q273, .inr (7, [.int 0, .int 0, .int 0, .int 0, .int 0, .long 0, .int 0, .int 0, .int 0, .int 0, .ref q277, .ref q278, .ref q279])), (q277, .inl (cy 1, 8, .inl (fun _ => 0))), (q278, .inl (cy 1, 8, .inl (fun _ => 0))), (q279, .inl (cy 1, 6, .inl (fun _ => 0)))]) [8] [0, 1, 2, 3, 4, 5, 6, 7] rfl rfl (by decide) (by decide) hP hD hS hA (va_runI (As := [.int 0]) (rest := [.ref q320, .int 6, .ref q270]) ⟨hx, hb, hml, hown, hT⟩ (cX7_init_1 l G cy ev _ q320) (cwI 1 hT (good_TB tb_409) rfl rfl rfl (hT _ tb_115) (hT _ tb_554) (hT _ tb_408) rfl (by decide +kernel) ⟨Nat.le_of_ble_eq_true rfl, Nat.le_of_ble_eq_true rfl⟩) (PB.preS hK hE hS hA hP hD [8] rfl (by decide)) rfl rfl hl.1 rfl (lv_room (Nat.le_of_ble_eq_true rfl)) dX4_init_47 ⟨Nat.le_of_ble_eq_true rfl, Nat.le_of_ble_eq_true rfl⟩) (fun u H locs hw hP hD hS => ?_)
  obtain ⟨q324, q325, q326⟩ := u
  obtain ⟨hP, hD⟩ : PD G A [(h0, .inr (4, [.ref q270, .ref q271, .ref q272, .int 0, .int 0, .int 0, .int 0, .int 0])), (q270, .inl (cy 4, 7, .inr (.inr (.inr (.inr (va_up y319 0 (some q273))))))), (q271, .inl (cy 1, 6, .inl (fun _ => 0))), (q272, .inl (cy 1, 6, .inl (fun _ => 0))), (q273, .inr (7, [.int 0, .int 0, .int 0, .int 0, .int 0, .long 0, .int 0, .int 0, .int 0, .int 0, .ref q277, .ref q278, .ref q279])), (q277, .inl (cy 1, 8, .inl (fun _ => 0))), (q278, .inl (cy 1, 8, .inl (fun _ => 0))), (q279, .inl (cy 1, 6, .inl (fun _ => 0))), (q320, .inr (7, [.int 0, .int 0, .int 0, .int 0, .int 0, .long 0, .int 0, .int 0, .int 0, .int 0, .ref q324, .ref q325, .ref q326])), (q324, .inl (cy 1, 8, .inl (fun _ => 0))), (q325, .inl (cy 1, 8, .inl (fun _ => 0))), (q326, .inl (cy 1, 6, .inl (fun _ => 0)))] H := ⟨hP, hD⟩
  refine W.widen (k := 31) (n := 264) (Nat.le_of_ble_eq_true rfl) (Nat.le_of_ble_eq_true rfl) ?_
  refine va_astq hx hb hK.1 hP hD hS 1 4 8 7 rfl rfl rfl rfl (by unfold vp_in; decide) dX4_init_50 (fun H locs hP hD hS => ?_)
  rw [up_swap (j := 0) (k := (6 : Int32).toNatClampNeg) (by decide)] at hP hD
  obtain ⟨y327, hP, hD⟩ : ∃ y327 : Nat → Option Nat, PD G A [(h0, .inr (4, [.ref q270, .ref q271, .ref q272, .int 0, .int 0, .int 0, .int 0, .int 0])), (q270, .inl (cy 4, 7, .inr (.inr (.inr (.inr (va_up y327 0 (some q273))))))), (q271, .inl (cy 1, 6, .inl (fun _ => 0))), (q272, .inl (cy 1, 6, .inl (fun _ => 0))), (q273, .inr (7, [.int 0, .int 0, .int 0, .int 0, .int 0, .long 0, .int 0, .int 0, .int 0, .int 0, .ref q277, .ref q278, .ref q279])), (q277, .inl (cy 1, 8, .inl (fun _ => 0))), (q278, .inl (cy 1, 8, .inl (fun _ => 0))), (q279, .inl (cy 1, 6, .inl (fun _ => 0)))] H := ⟨_, hP.sub [0, 1, 2, 3, 4, 5, 6, 7] rfl, hD.sub [0, 1, 2, 3, 4, 5, 6, 7] (by decide) rfl⟩
  refine lv_iinc (v := 7) (lv' := [(1, .int 7), (0, .ref h0)]) hx hb dX4_init_51 hl (k := 0) rfl (by decide) (by decide) rfl (fun ls hl => ?_)
  refine lv_goto (tgt := 31) hx hb dX4_init_54 (by decide) ?_
  refine lv_iload_n hx hb dX4_init_31 rfl (lv_at hl 0 rfl) ?_
  refine lv_bipush (v := 6) hx hb dX4_init_32 (by decide) ?_
  refine lv_icmp_gt (tgt := 57) hx hb dX4_init_34 (by decide) (fun _ => ?_) (fun c => absurd (by decide) c)
  exact kr_v hx hb hr hlocks hP hD hS (u := ((q270, q271, q272, q273, q277, q278, q279, y327) : Nat × Nat × Nat × Nat × Nat × Nat × Nat × (Nat → Option Nat))) trivial [0, 1, 2, 3, 4, 5, 6, 7] rfl (by decide) (Nat.le_of_ble_eq_true rfl) (Nat.le_of_ble_eq_true rfl) dX4_init_57

set_option maxRecDepth 100000 in
set_option maxHeartbeats 4000000 in
theorem cX12_appends_0 (l : Launch) (G : va_G) (cy : Nat → ClassId) (ev : Ev) (sz : Nat)   : Met l yX12_appends (WS yX12_appends cX12_appends 3 (some .long)) { frames := 0, cells := 0, slots := 0, locals := 0 } (PB [.long 0, .int 102] sz G cy ev []) (QBl (S := Unit) (fun (r : Int64) (u : Unit) => r = 6) G (fun u => []) (va_A [] sz)) 0 0 (va_A [] sz) := by
  refine met_of (y := yX12_appends) (L := 3) (av := [.long 0, .int 102]) (Qc := fun A => QBl (S := Unit) (fun (r : Int64) (u : Unit) => r = 6) G (fun u => []) A) (by decide) (Nat.le_of_ble_eq_true rfl) ?_
  intro p e s m below meth c hx hb hr hml hown hT hlocks hin hK A hA hE hP hD hS ls hl
  have hown : s.vm.findClass "LieClockModel" = some m.cls := hown
  have hl : lv_has ls 3 [(0, .long 0), (2, .int 102)] := hl
  refine lv_iload_n hx hb dX12_appends_0 rfl (lv_at hl 1 rfl) ?_
  refine lv_if_ne (tgt := 8) hx hb dX12_appends_1 (by decide) (fun _ => ?_) (fun c => absurd c (by decide))
  refine lv_ldc2 (v := 27) hx hb hown (hT _ tb_1374) dX12_appends_8 ?_
  refine lv_lload_n hx hb dX12_appends_11 rfl (lv_at hl 0 rfl) ?_
  refine kx_lmul (v := 0) hx hb dX12_appends_12 (by decide) ?_
  refine lv_iload_n hx hb dX12_appends_13 rfl (lv_at hl 1 rfl) ?_
  refine lv_bipush (v := 97) hx hb dX12_appends_14 (by decide) ?_
  refine kx_isub (v := 5) hx hb dX12_appends_16 (by decide) ?_
  refine lv_iconst (v := 1) hx hb dX12_appends_17 (by decide) ?_
  refine kx_iadd (v := 6) hx hb dX12_appends_18 (by decide) ?_
  refine lv_i2l (v := 6) hx hb dX12_appends_19 (by decide) ?_
  refine kx_ladd (v := 6) hx hb dX12_appends_20 (by decide) ?_
  exact kr_l hx hb hr hlocks hP hD hS (u := (() : Unit)) rfl [] rfl (by decide) (Nat.le_of_ble_eq_true rfl) (Nat.le_of_ble_eq_true rfl) dX12_appends_21

set_option maxRecDepth 100000 in
set_option maxHeartbeats 4000000 in
theorem cX12_appends_1 (l : Launch) (G : va_G) (cy : Nat → ClassId) (ev : Ev) (sz : Nat)   : Met l yX12_appends (WS yX12_appends cX12_appends 3 (some .long)) { frames := 0, cells := 0, slots := 0, locals := 0 } (PB [.long 6, .int 97] sz G cy ev []) (QBl (S := Unit) (fun (r : Int64) (u : Unit) => r = 163) G (fun u => []) (va_A [] sz)) 0 0 (va_A [] sz) := by
  refine met_of (y := yX12_appends) (L := 3) (av := [.long 6, .int 97]) (Qc := fun A => QBl (S := Unit) (fun (r : Int64) (u : Unit) => r = 163) G (fun u => []) A) (by decide) (Nat.le_of_ble_eq_true rfl) ?_
  intro p e s m below meth c hx hb hr hml hown hT hlocks hin hK A hA hE hP hD hS ls hl
  have hown : s.vm.findClass "LieClockModel" = some m.cls := hown
  have hl : lv_has ls 3 [(0, .long 6), (2, .int 97)] := hl
  refine lv_iload_n hx hb dX12_appends_0 rfl (lv_at hl 1 rfl) ?_
  refine lv_if_ne (tgt := 8) hx hb dX12_appends_1 (by decide) (fun _ => ?_) (fun c => absurd c (by decide))
  refine lv_ldc2 (v := 27) hx hb hown (hT _ tb_1374) dX12_appends_8 ?_
  refine lv_lload_n hx hb dX12_appends_11 rfl (lv_at hl 0 rfl) ?_
  refine kx_lmul (v := 162) hx hb dX12_appends_12 (by decide) ?_
  refine lv_iload_n hx hb dX12_appends_13 rfl (lv_at hl 1 rfl) ?_
  refine lv_bipush (v := 97) hx hb dX12_appends_14 (by decide) ?_
  refine kx_isub (v := 0) hx hb dX12_appends_16 (by decide) ?_
  refine lv_iconst (v := 1) hx hb dX12_appends_17 (by decide) ?_
  refine kx_iadd (v := 1) hx hb dX12_appends_18 (by decide) ?_
  refine lv_i2l (v := 1) hx hb dX12_appends_19 (by decide) ?_
  refine kx_ladd (v := 163) hx hb dX12_appends_20 (by decide) ?_
  exact kr_l hx hb hr hlocks hP hD hS (u := (() : Unit)) rfl [] rfl (by decide) (Nat.le_of_ble_eq_true rfl) (Nat.le_of_ble_eq_true rfl) dX12_appends_21

set_option maxRecDepth 100000 in
set_option maxHeartbeats 4000000 in
theorem cX12_appends_2 (l : Launch) (G : va_G) (cy : Nat → ClassId) (ev : Ev) (sz : Nat)   : Met l yX12_appends (WS yX12_appends cX12_appends 3 (some .long)) { frames := 0, cells := 0, slots := 0, locals := 0 } (PB [.long 163, .int 99] sz G cy ev []) (QBl (S := Unit) (fun (r : Int64) (u : Unit) => r = 4404) G (fun u => []) (va_A [] sz)) 0 0 (va_A [] sz) := by
  refine met_of (y := yX12_appends) (L := 3) (av := [.long 163, .int 99]) (Qc := fun A => QBl (S := Unit) (fun (r : Int64) (u : Unit) => r = 4404) G (fun u => []) A) (by decide) (Nat.le_of_ble_eq_true rfl) ?_
  intro p e s m below meth c hx hb hr hml hown hT hlocks hin hK A hA hE hP hD hS ls hl
  have hown : s.vm.findClass "LieClockModel" = some m.cls := hown
  have hl : lv_has ls 3 [(0, .long 163), (2, .int 99)] := hl
  refine lv_iload_n hx hb dX12_appends_0 rfl (lv_at hl 1 rfl) ?_
  refine lv_if_ne (tgt := 8) hx hb dX12_appends_1 (by decide) (fun _ => ?_) (fun c => absurd c (by decide))
  refine lv_ldc2 (v := 27) hx hb hown (hT _ tb_1374) dX12_appends_8 ?_
  refine lv_lload_n hx hb dX12_appends_11 rfl (lv_at hl 0 rfl) ?_
  refine kx_lmul (v := 4401) hx hb dX12_appends_12 (by decide) ?_
  refine lv_iload_n hx hb dX12_appends_13 rfl (lv_at hl 1 rfl) ?_
  refine lv_bipush (v := 97) hx hb dX12_appends_14 (by decide) ?_
  refine kx_isub (v := 2) hx hb dX12_appends_16 (by decide) ?_
  refine lv_iconst (v := 1) hx hb dX12_appends_17 (by decide) ?_
  refine kx_iadd (v := 3) hx hb dX12_appends_18 (by decide) ?_
  refine lv_i2l (v := 3) hx hb dX12_appends_19 (by decide) ?_
  refine kx_ladd (v := 4404) hx hb dX12_appends_20 (by decide) ?_
  exact kr_l hx hb hr hlocks hP hD hS (u := (() : Unit)) rfl [] rfl (by decide) (Nat.le_of_ble_eq_true rfl) (Nat.le_of_ble_eq_true rfl) dX12_appends_21

set_option maxRecDepth 100000 in
set_option maxHeartbeats 4000000 in
theorem cX12_appends_3 (l : Launch) (G : va_G) (cy : Nat → ClassId) (ev : Ev) (sz : Nat)   : Met l yX12_appends (WS yX12_appends cX12_appends 3 (some .long)) { frames := 0, cells := 0, slots := 0, locals := 0 } (PB [.long 4404, .int 116] sz G cy ev []) (QBl (S := Unit) (fun (r : Int64) (u : Unit) => r = 118928) G (fun u => []) (va_A [] sz)) 0 0 (va_A [] sz) := by
  refine met_of (y := yX12_appends) (L := 3) (av := [.long 4404, .int 116]) (Qc := fun A => QBl (S := Unit) (fun (r : Int64) (u : Unit) => r = 118928) G (fun u => []) A) (by decide) (Nat.le_of_ble_eq_true rfl) ?_
  intro p e s m below meth c hx hb hr hml hown hT hlocks hin hK A hA hE hP hD hS ls hl
  have hown : s.vm.findClass "LieClockModel" = some m.cls := hown
  have hl : lv_has ls 3 [(0, .long 4404), (2, .int 116)] := hl
  refine lv_iload_n hx hb dX12_appends_0 rfl (lv_at hl 1 rfl) ?_
  refine lv_if_ne (tgt := 8) hx hb dX12_appends_1 (by decide) (fun _ => ?_) (fun c => absurd c (by decide))
  refine lv_ldc2 (v := 27) hx hb hown (hT _ tb_1374) dX12_appends_8 ?_
  refine lv_lload_n hx hb dX12_appends_11 rfl (lv_at hl 0 rfl) ?_
  refine kx_lmul (v := 118908) hx hb dX12_appends_12 (by decide) ?_
  refine lv_iload_n hx hb dX12_appends_13 rfl (lv_at hl 1 rfl) ?_
  refine lv_bipush (v := 97) hx hb dX12_appends_14 (by decide) ?_
  refine kx_isub (v := 19) hx hb dX12_appends_16 (by decide) ?_
  refine lv_iconst (v := 1) hx hb dX12_appends_17 (by decide) ?_
  refine kx_iadd (v := 20) hx hb dX12_appends_18 (by decide) ?_
  refine lv_i2l (v := 20) hx hb dX12_appends_19 (by decide) ?_
  refine kx_ladd (v := 118928) hx hb dX12_appends_20 (by decide) ?_
  exact kr_l hx hb hr hlocks hP hD hS (u := (() : Unit)) rfl [] rfl (by decide) (Nat.le_of_ble_eq_true rfl) (Nat.le_of_ble_eq_true rfl) dX12_appends_21

set_option maxRecDepth 100000 in
set_option maxHeartbeats 4000000 in
theorem cX12_appends_4 (l : Launch) (G : va_G) (cy : Nat → ClassId) (ev : Ev) (sz : Nat)   : Met l yX12_appends (WS yX12_appends cX12_appends 3 (some .long)) { frames := 0, cells := 0, slots := 0, locals := 0 } (PB [.long 118928, .int 0] sz G cy ev []) (QBl (S := Unit) (fun (r : Int64) (u : Unit) => r = 118928) G (fun u => []) (va_A [] sz)) 0 0 (va_A [] sz) := by
  refine met_of (y := yX12_appends) (L := 3) (av := [.long 118928, .int 0]) (Qc := fun A => QBl (S := Unit) (fun (r : Int64) (u : Unit) => r = 118928) G (fun u => []) A) (by decide) (Nat.le_of_ble_eq_true rfl) ?_
  intro p e s m below meth c hx hb hr hml hown hT hlocks hin hK A hA hE hP hD hS ls hl
  have hown : s.vm.findClass "LieClockModel" = some m.cls := hown
  have hl : lv_has ls 3 [(0, .long 118928), (2, .int 0)] := hl
  refine lv_iload_n hx hb dX12_appends_0 rfl (lv_at hl 1 rfl) ?_
  refine lv_if_ne (tgt := 8) hx hb dX12_appends_1 (by decide) (fun c => absurd (by decide) c) (fun _ => ?_)
  refine lv_lload_n hx hb dX12_appends_4 rfl (lv_at hl 0 rfl) ?_
  refine lv_goto (tgt := 21) hx hb dX12_appends_5 (by decide) ?_
  exact kr_l hx hb hr hlocks hP hD hS (u := (() : Unit)) rfl [] rfl (by decide) (Nat.le_of_ble_eq_true rfl) (Nat.le_of_ble_eq_true rfl) dX12_appends_21

set_option maxRecDepth 100000 in
set_option maxHeartbeats 4000000 in
theorem cX12_word_0 (l : Launch) (G : va_G) (cy : Nat → ClassId) (ev : Ev) (sz : Nat)   : Met l yX12_word (WS yX12_word cX12_word 7 (some .long)) { frames := 1, cells := 0, slots := 0, locals := 22 } (PB [.int 102, .int 97, .int 99, .int 116, .int 0, .int 0, .int 0] sz G cy ev []) (QBl (S := Unit) (fun (r : Int64) (u : Unit) => r = 118928) G (fun u => []) (va_A [] sz)) 0 0 (va_A [] sz) := by
  refine met_of (y := yX12_word) (L := 7) (av := [.int 102, .int 97, .int 99, .int 116, .int 0, .int 0, .int 0]) (Qc := fun A => QBl (S := Unit) (fun (r : Int64) (u : Unit) => r = 118928) G (fun u => []) A) (by decide) (Nat.le_of_ble_eq_true rfl) ?_
  intro p e s m below meth c hx hb hr hml hown hT hlocks hin hK A hA hE hP hD hS ls hl
  have hown : s.vm.findClass "LieClockModel" = some m.cls := hown
  have hl : lv_has ls 7 [(0, .int 102), (1, .int 97), (2, .int 99), (3, .int 116), (4, .int 0), (5, .int 0), (6, .int 0)] := hl
  refine lv_lconst (v := 0) hx hb dX12_word_0 (by decide) ?_
  refine lv_iload_n hx hb dX12_word_1 rfl (lv_at hl 0 rfl) ?_
  refine kc_l (W1 := []) (wr := []) [] [] rfl rfl (by decide) (by decide) hP hD hS hA (va_runS (As := [.long 0, .int 102]) (rest := []) ⟨hx, hb, hml, hown, hT⟩ (cX12_appends_0 l G cy ev _ ) (va_cwS 2 hT (good_S tb_1373 tb_1371 tb_1372 tb_122) rfl rfl rfl (by decide +kernel) ⟨Nat.le_of_ble_eq_true rfl, Nat.le_of_ble_eq_true rfl⟩) (PB.preS hK hE hS hA hP hD [] rfl (by decide)) rfl rfl hl.1 rfl (lv_room (Nat.le_of_ble_eq_true rfl)) dX12_word_2 ⟨Nat.le_of_ble_eq_true rfl, Nat.le_of_ble_eq_true rfl⟩) (fun r u H locs hw hP hD hS => ?_)
  obtain rfl : r = 6 := hw
  obtain ⟨hP, hD⟩ : PD G A [] H := ⟨hP, hD⟩
  refine lv_iload_n hx hb dX12_word_5 rfl (lv_at hl 1 rfl) ?_
  refine kc_l (W1 := []) (wr := []) [] [] rfl rfl (by decide) (by decide) hP hD hS hA (va_runS (As := [.long 6, .int 97]) (rest := []) ⟨hx, hb, hml, hown, hT⟩ (cX12_appends_1 l G cy ev _ ) (va_cwS 2 hT (good_S tb_1373 tb_1371 tb_1372 tb_122) rfl rfl rfl (by decide +kernel) ⟨Nat.le_of_ble_eq_true rfl, Nat.le_of_ble_eq_true rfl⟩) (PB.preS hK hE hS hA hP hD [] rfl (by decide)) rfl rfl hl.1 rfl (lv_room (Nat.le_of_ble_eq_true rfl)) dX12_word_6 ⟨Nat.le_of_ble_eq_true rfl, Nat.le_of_ble_eq_true rfl⟩) (fun r u H locs hw hP hD hS => ?_)
  obtain rfl : r = 163 := hw
  obtain ⟨hP, hD⟩ : PD G A [] H := ⟨hP, hD⟩
  refine lv_iload_n hx hb dX12_word_9 rfl (lv_at hl 2 rfl) ?_
  refine kc_l (W1 := []) (wr := []) [] [] rfl rfl (by decide) (by decide) hP hD hS hA (va_runS (As := [.long 163, .int 99]) (rest := []) ⟨hx, hb, hml, hown, hT⟩ (cX12_appends_2 l G cy ev _ ) (va_cwS 2 hT (good_S tb_1373 tb_1371 tb_1372 tb_122) rfl rfl rfl (by decide +kernel) ⟨Nat.le_of_ble_eq_true rfl, Nat.le_of_ble_eq_true rfl⟩) (PB.preS hK hE hS hA hP hD [] rfl (by decide)) rfl rfl hl.1 rfl (lv_room (Nat.le_of_ble_eq_true rfl)) dX12_word_10 ⟨Nat.le_of_ble_eq_true rfl, Nat.le_of_ble_eq_true rfl⟩) (fun r u H locs hw hP hD hS => ?_)
  obtain rfl : r = 4404 := hw
  obtain ⟨hP, hD⟩ : PD G A [] H := ⟨hP, hD⟩
  refine lv_iload_n hx hb dX12_word_13 rfl (lv_at hl 3 rfl) ?_
  refine kc_l (W1 := []) (wr := []) [] [] rfl rfl (by decide) (by decide) hP hD hS hA (va_runS (As := [.long 4404, .int 116]) (rest := []) ⟨hx, hb, hml, hown, hT⟩ (cX12_appends_3 l G cy ev _ ) (va_cwS 2 hT (good_S tb_1373 tb_1371 tb_1372 tb_122) rfl rfl rfl (by decide +kernel) ⟨Nat.le_of_ble_eq_true rfl, Nat.le_of_ble_eq_true rfl⟩) (PB.preS hK hE hS hA hP hD [] rfl (by decide)) rfl rfl hl.1 rfl (lv_room (Nat.le_of_ble_eq_true rfl)) dX12_word_14 ⟨Nat.le_of_ble_eq_true rfl, Nat.le_of_ble_eq_true rfl⟩) (fun r u H locs hw hP hD hS => ?_)
  obtain rfl : r = 118928 := hw
  obtain ⟨hP, hD⟩ : PD G A [] H := ⟨hP, hD⟩
  refine lv_iload hx hb dX12_word_17 (lv_at hl 4 rfl) ?_
  refine kc_l (W1 := []) (wr := []) [] [] rfl rfl (by decide) (by decide) hP hD hS hA (va_runS (As := [.long 118928, .int 0]) (rest := []) ⟨hx, hb, hml, hown, hT⟩ (cX12_appends_4 l G cy ev _ ) (va_cwS 2 hT (good_S tb_1373 tb_1371 tb_1372 tb_122) rfl rfl rfl (by decide +kernel) ⟨Nat.le_of_ble_eq_true rfl, Nat.le_of_ble_eq_true rfl⟩) (PB.preS hK hE hS hA hP hD [] rfl (by decide)) rfl rfl hl.1 rfl (lv_room (Nat.le_of_ble_eq_true rfl)) dX12_word_19 ⟨Nat.le_of_ble_eq_true rfl, Nat.le_of_ble_eq_true rfl⟩) (fun r u H locs hw hP hD hS => ?_)
  obtain rfl : r = 118928 := hw
  obtain ⟨hP, hD⟩ : PD G A [] H := ⟨hP, hD⟩
  refine lv_iload hx hb dX12_word_22 (lv_at hl 5 rfl) ?_
  refine kc_l (W1 := []) (wr := []) [] [] rfl rfl (by decide) (by decide) hP hD hS hA (va_runS (As := [.long 118928, .int 0]) (rest := []) ⟨hx, hb, hml, hown, hT⟩ (cX12_appends_4 l G cy ev _ ) (va_cwS 2 hT (good_S tb_1373 tb_1371 tb_1372 tb_122) rfl rfl rfl (by decide +kernel) ⟨Nat.le_of_ble_eq_true rfl, Nat.le_of_ble_eq_true rfl⟩) (PB.preS hK hE hS hA hP hD [] rfl (by decide)) rfl rfl hl.1 rfl (lv_room (Nat.le_of_ble_eq_true rfl)) dX12_word_24 ⟨Nat.le_of_ble_eq_true rfl, Nat.le_of_ble_eq_true rfl⟩) (fun r u H locs hw hP hD hS => ?_)
  obtain rfl : r = 118928 := hw
  obtain ⟨hP, hD⟩ : PD G A [] H := ⟨hP, hD⟩
  refine lv_iload hx hb dX12_word_27 (lv_at hl 6 rfl) ?_
  refine kc_l (W1 := []) (wr := []) [] [] rfl rfl (by decide) (by decide) hP hD hS hA (va_runS (As := [.long 118928, .int 0]) (rest := []) ⟨hx, hb, hml, hown, hT⟩ (cX12_appends_4 l G cy ev _ ) (va_cwS 2 hT (good_S tb_1373 tb_1371 tb_1372 tb_122) rfl rfl rfl (by decide +kernel) ⟨Nat.le_of_ble_eq_true rfl, Nat.le_of_ble_eq_true rfl⟩) (PB.preS hK hE hS hA hP hD [] rfl (by decide)) rfl rfl hl.1 rfl (lv_room (Nat.le_of_ble_eq_true rfl)) dX12_word_29 ⟨Nat.le_of_ble_eq_true rfl, Nat.le_of_ble_eq_true rfl⟩) (fun r u H locs hw hP hD hS => ?_)
  obtain rfl : r = 118928 := hw
  obtain ⟨hP, hD⟩ : PD G A [] H := ⟨hP, hD⟩
  exact kr_l hx hb hr hlocks hP hD hS (u := (() : Unit)) rfl [] rfl (by decide) (Nat.le_of_ble_eq_true rfl) (Nat.le_of_ble_eq_true rfl) dX12_word_32

set_option maxRecDepth 100000 in
set_option maxHeartbeats 4000000 in
theorem cX12_appends_5 (l : Launch) (G : va_G) (cy : Nat → ClassId) (ev : Ev) (sz : Nat)   : Met l yX12_appends (WS yX12_appends cX12_appends 3 (some .long)) { frames := 0, cells := 0, slots := 0, locals := 0 } (PB [.long 0, .int 121] sz G cy ev []) (QBl (S := Unit) (fun (r : Int64) (u : Unit) => r = 25) G (fun u => []) (va_A [] sz)) 0 0 (va_A [] sz) := by
  refine met_of (y := yX12_appends) (L := 3) (av := [.long 0, .int 121]) (Qc := fun A => QBl (S := Unit) (fun (r : Int64) (u : Unit) => r = 25) G (fun u => []) A) (by decide) (Nat.le_of_ble_eq_true rfl) ?_
  intro p e s m below meth c hx hb hr hml hown hT hlocks hin hK A hA hE hP hD hS ls hl
  have hown : s.vm.findClass "LieClockModel" = some m.cls := hown
  have hl : lv_has ls 3 [(0, .long 0), (2, .int 121)] := hl
  refine lv_iload_n hx hb dX12_appends_0 rfl (lv_at hl 1 rfl) ?_
  refine lv_if_ne (tgt := 8) hx hb dX12_appends_1 (by decide) (fun _ => ?_) (fun c => absurd c (by decide))
  refine lv_ldc2 (v := 27) hx hb hown (hT _ tb_1374) dX12_appends_8 ?_
  refine lv_lload_n hx hb dX12_appends_11 rfl (lv_at hl 0 rfl) ?_
  refine kx_lmul (v := 0) hx hb dX12_appends_12 (by decide) ?_
  refine lv_iload_n hx hb dX12_appends_13 rfl (lv_at hl 1 rfl) ?_
  refine lv_bipush (v := 97) hx hb dX12_appends_14 (by decide) ?_
  refine kx_isub (v := 24) hx hb dX12_appends_16 (by decide) ?_
  refine lv_iconst (v := 1) hx hb dX12_appends_17 (by decide) ?_
  refine kx_iadd (v := 25) hx hb dX12_appends_18 (by decide) ?_
  refine lv_i2l (v := 25) hx hb dX12_appends_19 (by decide) ?_
  refine kx_ladd (v := 25) hx hb dX12_appends_20 (by decide) ?_
  exact kr_l hx hb hr hlocks hP hD hS (u := (() : Unit)) rfl [] rfl (by decide) (Nat.le_of_ble_eq_true rfl) (Nat.le_of_ble_eq_true rfl) dX12_appends_21

set_option maxRecDepth 100000 in
set_option maxHeartbeats 4000000 in
theorem cX12_appends_6 (l : Launch) (G : va_G) (cy : Nat → ClassId) (ev : Ev) (sz : Nat)   : Met l yX12_appends (WS yX12_appends cX12_appends 3 (some .long)) { frames := 0, cells := 0, slots := 0, locals := 0 } (PB [.long 25, .int 101] sz G cy ev []) (QBl (S := Unit) (fun (r : Int64) (u : Unit) => r = 680) G (fun u => []) (va_A [] sz)) 0 0 (va_A [] sz) := by
  refine met_of (y := yX12_appends) (L := 3) (av := [.long 25, .int 101]) (Qc := fun A => QBl (S := Unit) (fun (r : Int64) (u : Unit) => r = 680) G (fun u => []) A) (by decide) (Nat.le_of_ble_eq_true rfl) ?_
  intro p e s m below meth c hx hb hr hml hown hT hlocks hin hK A hA hE hP hD hS ls hl
  have hown : s.vm.findClass "LieClockModel" = some m.cls := hown
  have hl : lv_has ls 3 [(0, .long 25), (2, .int 101)] := hl
  refine lv_iload_n hx hb dX12_appends_0 rfl (lv_at hl 1 rfl) ?_
  refine lv_if_ne (tgt := 8) hx hb dX12_appends_1 (by decide) (fun _ => ?_) (fun c => absurd c (by decide))
  refine lv_ldc2 (v := 27) hx hb hown (hT _ tb_1374) dX12_appends_8 ?_
  refine lv_lload_n hx hb dX12_appends_11 rfl (lv_at hl 0 rfl) ?_
  refine kx_lmul (v := 675) hx hb dX12_appends_12 (by decide) ?_
  refine lv_iload_n hx hb dX12_appends_13 rfl (lv_at hl 1 rfl) ?_
  refine lv_bipush (v := 97) hx hb dX12_appends_14 (by decide) ?_
  refine kx_isub (v := 4) hx hb dX12_appends_16 (by decide) ?_
  refine lv_iconst (v := 1) hx hb dX12_appends_17 (by decide) ?_
  refine kx_iadd (v := 5) hx hb dX12_appends_18 (by decide) ?_
  refine lv_i2l (v := 5) hx hb dX12_appends_19 (by decide) ?_
  refine kx_ladd (v := 680) hx hb dX12_appends_20 (by decide) ?_
  exact kr_l hx hb hr hlocks hP hD hS (u := (() : Unit)) rfl [] rfl (by decide) (Nat.le_of_ble_eq_true rfl) (Nat.le_of_ble_eq_true rfl) dX12_appends_21

set_option maxRecDepth 100000 in
set_option maxHeartbeats 4000000 in
theorem cX12_appends_7 (l : Launch) (G : va_G) (cy : Nat → ClassId) (ev : Ev) (sz : Nat)   : Met l yX12_appends (WS yX12_appends cX12_appends 3 (some .long)) { frames := 0, cells := 0, slots := 0, locals := 0 } (PB [.long 680, .int 115] sz G cy ev []) (QBl (S := Unit) (fun (r : Int64) (u : Unit) => r = 18379) G (fun u => []) (va_A [] sz)) 0 0 (va_A [] sz) := by
  refine met_of (y := yX12_appends) (L := 3) (av := [.long 680, .int 115]) (Qc := fun A => QBl (S := Unit) (fun (r : Int64) (u : Unit) => r = 18379) G (fun u => []) A) (by decide) (Nat.le_of_ble_eq_true rfl) ?_
  intro p e s m below meth c hx hb hr hml hown hT hlocks hin hK A hA hE hP hD hS ls hl
  have hown : s.vm.findClass "LieClockModel" = some m.cls := hown
  have hl : lv_has ls 3 [(0, .long 680), (2, .int 115)] := hl
  refine lv_iload_n hx hb dX12_appends_0 rfl (lv_at hl 1 rfl) ?_
  refine lv_if_ne (tgt := 8) hx hb dX12_appends_1 (by decide) (fun _ => ?_) (fun c => absurd c (by decide))
  refine lv_ldc2 (v := 27) hx hb hown (hT _ tb_1374) dX12_appends_8 ?_
  refine lv_lload_n hx hb dX12_appends_11 rfl (lv_at hl 0 rfl) ?_
  refine kx_lmul (v := 18360) hx hb dX12_appends_12 (by decide) ?_
  refine lv_iload_n hx hb dX12_appends_13 rfl (lv_at hl 1 rfl) ?_
  refine lv_bipush (v := 97) hx hb dX12_appends_14 (by decide) ?_
  refine kx_isub (v := 18) hx hb dX12_appends_16 (by decide) ?_
  refine lv_iconst (v := 1) hx hb dX12_appends_17 (by decide) ?_
  refine kx_iadd (v := 19) hx hb dX12_appends_18 (by decide) ?_
  refine lv_i2l (v := 19) hx hb dX12_appends_19 (by decide) ?_
  refine kx_ladd (v := 18379) hx hb dX12_appends_20 (by decide) ?_
  exact kr_l hx hb hr hlocks hP hD hS (u := (() : Unit)) rfl [] rfl (by decide) (Nat.le_of_ble_eq_true rfl) (Nat.le_of_ble_eq_true rfl) dX12_appends_21

set_option maxRecDepth 100000 in
set_option maxHeartbeats 4000000 in
theorem cX12_appends_8 (l : Launch) (G : va_G) (cy : Nat → ClassId) (ev : Ev) (sz : Nat)   : Met l yX12_appends (WS yX12_appends cX12_appends 3 (some .long)) { frames := 0, cells := 0, slots := 0, locals := 0 } (PB [.long 18379, .int 0] sz G cy ev []) (QBl (S := Unit) (fun (r : Int64) (u : Unit) => r = 18379) G (fun u => []) (va_A [] sz)) 0 0 (va_A [] sz) := by
  refine met_of (y := yX12_appends) (L := 3) (av := [.long 18379, .int 0]) (Qc := fun A => QBl (S := Unit) (fun (r : Int64) (u : Unit) => r = 18379) G (fun u => []) A) (by decide) (Nat.le_of_ble_eq_true rfl) ?_
  intro p e s m below meth c hx hb hr hml hown hT hlocks hin hK A hA hE hP hD hS ls hl
  have hown : s.vm.findClass "LieClockModel" = some m.cls := hown
  have hl : lv_has ls 3 [(0, .long 18379), (2, .int 0)] := hl
  refine lv_iload_n hx hb dX12_appends_0 rfl (lv_at hl 1 rfl) ?_
  refine lv_if_ne (tgt := 8) hx hb dX12_appends_1 (by decide) (fun c => absurd (by decide) c) (fun _ => ?_)
  refine lv_lload_n hx hb dX12_appends_4 rfl (lv_at hl 0 rfl) ?_
  refine lv_goto (tgt := 21) hx hb dX12_appends_5 (by decide) ?_
  exact kr_l hx hb hr hlocks hP hD hS (u := (() : Unit)) rfl [] rfl (by decide) (Nat.le_of_ble_eq_true rfl) (Nat.le_of_ble_eq_true rfl) dX12_appends_21

set_option maxRecDepth 100000 in
set_option maxHeartbeats 4000000 in
theorem cX12_word_1 (l : Launch) (G : va_G) (cy : Nat → ClassId) (ev : Ev) (sz : Nat)   : Met l yX12_word (WS yX12_word cX12_word 7 (some .long)) { frames := 1, cells := 0, slots := 0, locals := 22 } (PB [.int 121, .int 101, .int 115, .int 0, .int 0, .int 0, .int 0] sz G cy ev []) (QBl (S := Unit) (fun (r : Int64) (u : Unit) => r = 18379) G (fun u => []) (va_A [] sz)) 0 0 (va_A [] sz) := by
  refine met_of (y := yX12_word) (L := 7) (av := [.int 121, .int 101, .int 115, .int 0, .int 0, .int 0, .int 0]) (Qc := fun A => QBl (S := Unit) (fun (r : Int64) (u : Unit) => r = 18379) G (fun u => []) A) (by decide) (Nat.le_of_ble_eq_true rfl) ?_
  intro p e s m below meth c hx hb hr hml hown hT hlocks hin hK A hA hE hP hD hS ls hl
  have hown : s.vm.findClass "LieClockModel" = some m.cls := hown
  have hl : lv_has ls 7 [(0, .int 121), (1, .int 101), (2, .int 115), (3, .int 0), (4, .int 0), (5, .int 0), (6, .int 0)] := hl
  refine lv_lconst (v := 0) hx hb dX12_word_0 (by decide) ?_
  refine lv_iload_n hx hb dX12_word_1 rfl (lv_at hl 0 rfl) ?_
  refine kc_l (W1 := []) (wr := []) [] [] rfl rfl (by decide) (by decide) hP hD hS hA (va_runS (As := [.long 0, .int 121]) (rest := []) ⟨hx, hb, hml, hown, hT⟩ (cX12_appends_5 l G cy ev _ ) (va_cwS 2 hT (good_S tb_1373 tb_1371 tb_1372 tb_122) rfl rfl rfl (by decide +kernel) ⟨Nat.le_of_ble_eq_true rfl, Nat.le_of_ble_eq_true rfl⟩) (PB.preS hK hE hS hA hP hD [] rfl (by decide)) rfl rfl hl.1 rfl (lv_room (Nat.le_of_ble_eq_true rfl)) dX12_word_2 ⟨Nat.le_of_ble_eq_true rfl, Nat.le_of_ble_eq_true rfl⟩) (fun r u H locs hw hP hD hS => ?_)
  obtain rfl : r = 25 := hw
  obtain ⟨hP, hD⟩ : PD G A [] H := ⟨hP, hD⟩
  refine lv_iload_n hx hb dX12_word_5 rfl (lv_at hl 1 rfl) ?_
  refine kc_l (W1 := []) (wr := []) [] [] rfl rfl (by decide) (by decide) hP hD hS hA (va_runS (As := [.long 25, .int 101]) (rest := []) ⟨hx, hb, hml, hown, hT⟩ (cX12_appends_6 l G cy ev _ ) (va_cwS 2 hT (good_S tb_1373 tb_1371 tb_1372 tb_122) rfl rfl rfl (by decide +kernel) ⟨Nat.le_of_ble_eq_true rfl, Nat.le_of_ble_eq_true rfl⟩) (PB.preS hK hE hS hA hP hD [] rfl (by decide)) rfl rfl hl.1 rfl (lv_room (Nat.le_of_ble_eq_true rfl)) dX12_word_6 ⟨Nat.le_of_ble_eq_true rfl, Nat.le_of_ble_eq_true rfl⟩) (fun r u H locs hw hP hD hS => ?_)
  obtain rfl : r = 680 := hw
  obtain ⟨hP, hD⟩ : PD G A [] H := ⟨hP, hD⟩
  refine lv_iload_n hx hb dX12_word_9 rfl (lv_at hl 2 rfl) ?_
  refine kc_l (W1 := []) (wr := []) [] [] rfl rfl (by decide) (by decide) hP hD hS hA (va_runS (As := [.long 680, .int 115]) (rest := []) ⟨hx, hb, hml, hown, hT⟩ (cX12_appends_7 l G cy ev _ ) (va_cwS 2 hT (good_S tb_1373 tb_1371 tb_1372 tb_122) rfl rfl rfl (by decide +kernel) ⟨Nat.le_of_ble_eq_true rfl, Nat.le_of_ble_eq_true rfl⟩) (PB.preS hK hE hS hA hP hD [] rfl (by decide)) rfl rfl hl.1 rfl (lv_room (Nat.le_of_ble_eq_true rfl)) dX12_word_10 ⟨Nat.le_of_ble_eq_true rfl, Nat.le_of_ble_eq_true rfl⟩) (fun r u H locs hw hP hD hS => ?_)
  obtain rfl : r = 18379 := hw
  obtain ⟨hP, hD⟩ : PD G A [] H := ⟨hP, hD⟩
  refine lv_iload_n hx hb dX12_word_13 rfl (lv_at hl 3 rfl) ?_
  refine kc_l (W1 := []) (wr := []) [] [] rfl rfl (by decide) (by decide) hP hD hS hA (va_runS (As := [.long 18379, .int 0]) (rest := []) ⟨hx, hb, hml, hown, hT⟩ (cX12_appends_8 l G cy ev _ ) (va_cwS 2 hT (good_S tb_1373 tb_1371 tb_1372 tb_122) rfl rfl rfl (by decide +kernel) ⟨Nat.le_of_ble_eq_true rfl, Nat.le_of_ble_eq_true rfl⟩) (PB.preS hK hE hS hA hP hD [] rfl (by decide)) rfl rfl hl.1 rfl (lv_room (Nat.le_of_ble_eq_true rfl)) dX12_word_14 ⟨Nat.le_of_ble_eq_true rfl, Nat.le_of_ble_eq_true rfl⟩) (fun r u H locs hw hP hD hS => ?_)
  obtain rfl : r = 18379 := hw
  obtain ⟨hP, hD⟩ : PD G A [] H := ⟨hP, hD⟩
  refine lv_iload hx hb dX12_word_17 (lv_at hl 4 rfl) ?_
  refine kc_l (W1 := []) (wr := []) [] [] rfl rfl (by decide) (by decide) hP hD hS hA (va_runS (As := [.long 18379, .int 0]) (rest := []) ⟨hx, hb, hml, hown, hT⟩ (cX12_appends_8 l G cy ev _ ) (va_cwS 2 hT (good_S tb_1373 tb_1371 tb_1372 tb_122) rfl rfl rfl (by decide +kernel) ⟨Nat.le_of_ble_eq_true rfl, Nat.le_of_ble_eq_true rfl⟩) (PB.preS hK hE hS hA hP hD [] rfl (by decide)) rfl rfl hl.1 rfl (lv_room (Nat.le_of_ble_eq_true rfl)) dX12_word_19 ⟨Nat.le_of_ble_eq_true rfl, Nat.le_of_ble_eq_true rfl⟩) (fun r u H locs hw hP hD hS => ?_)
  obtain rfl : r = 18379 := hw
  obtain ⟨hP, hD⟩ : PD G A [] H := ⟨hP, hD⟩
  refine lv_iload hx hb dX12_word_22 (lv_at hl 5 rfl) ?_
  refine kc_l (W1 := []) (wr := []) [] [] rfl rfl (by decide) (by decide) hP hD hS hA (va_runS (As := [.long 18379, .int 0]) (rest := []) ⟨hx, hb, hml, hown, hT⟩ (cX12_appends_8 l G cy ev _ ) (va_cwS 2 hT (good_S tb_1373 tb_1371 tb_1372 tb_122) rfl rfl rfl (by decide +kernel) ⟨Nat.le_of_ble_eq_true rfl, Nat.le_of_ble_eq_true rfl⟩) (PB.preS hK hE hS hA hP hD [] rfl (by decide)) rfl rfl hl.1 rfl (lv_room (Nat.le_of_ble_eq_true rfl)) dX12_word_24 ⟨Nat.le_of_ble_eq_true rfl, Nat.le_of_ble_eq_true rfl⟩) (fun r u H locs hw hP hD hS => ?_)
  obtain rfl : r = 18379 := hw
  obtain ⟨hP, hD⟩ : PD G A [] H := ⟨hP, hD⟩
  refine lv_iload hx hb dX12_word_27 (lv_at hl 6 rfl) ?_
  refine kc_l (W1 := []) (wr := []) [] [] rfl rfl (by decide) (by decide) hP hD hS hA (va_runS (As := [.long 18379, .int 0]) (rest := []) ⟨hx, hb, hml, hown, hT⟩ (cX12_appends_8 l G cy ev _ ) (va_cwS 2 hT (good_S tb_1373 tb_1371 tb_1372 tb_122) rfl rfl rfl (by decide +kernel) ⟨Nat.le_of_ble_eq_true rfl, Nat.le_of_ble_eq_true rfl⟩) (PB.preS hK hE hS hA hP hD [] rfl (by decide)) rfl rfl hl.1 rfl (lv_room (Nat.le_of_ble_eq_true rfl)) dX12_word_29 ⟨Nat.le_of_ble_eq_true rfl, Nat.le_of_ble_eq_true rfl⟩) (fun r u H locs hw hP hD hS => ?_)
  obtain rfl : r = 18379 := hw
  obtain ⟨hP, hD⟩ : PD G A [] H := ⟨hP, hD⟩
  exact kr_l hx hb hr hlocks hP hD hS (u := (() : Unit)) rfl [] rfl (by decide) (Nat.le_of_ble_eq_true rfl) (Nat.le_of_ble_eq_true rfl) dX12_word_32

set_option maxRecDepth 100000 in
set_option maxHeartbeats 4000000 in
theorem cX12_appends_9 (l : Launch) (G : va_G) (cy : Nat → ClassId) (ev : Ev) (sz : Nat)   : Met l yX12_appends (WS yX12_appends cX12_appends 3 (some .long)) { frames := 0, cells := 0, slots := 0, locals := 0 } (PB [.long 0, .int 110] sz G cy ev []) (QBl (S := Unit) (fun (r : Int64) (u : Unit) => r = 14) G (fun u => []) (va_A [] sz)) 0 0 (va_A [] sz) := by
  refine met_of (y := yX12_appends) (L := 3) (av := [.long 0, .int 110]) (Qc := fun A => QBl (S := Unit) (fun (r : Int64) (u : Unit) => r = 14) G (fun u => []) A) (by decide) (Nat.le_of_ble_eq_true rfl) ?_
  intro p e s m below meth c hx hb hr hml hown hT hlocks hin hK A hA hE hP hD hS ls hl
  have hown : s.vm.findClass "LieClockModel" = some m.cls := hown
  have hl : lv_has ls 3 [(0, .long 0), (2, .int 110)] := hl
  refine lv_iload_n hx hb dX12_appends_0 rfl (lv_at hl 1 rfl) ?_
  refine lv_if_ne (tgt := 8) hx hb dX12_appends_1 (by decide) (fun _ => ?_) (fun c => absurd c (by decide))
  refine lv_ldc2 (v := 27) hx hb hown (hT _ tb_1374) dX12_appends_8 ?_
  refine lv_lload_n hx hb dX12_appends_11 rfl (lv_at hl 0 rfl) ?_
  refine kx_lmul (v := 0) hx hb dX12_appends_12 (by decide) ?_
  refine lv_iload_n hx hb dX12_appends_13 rfl (lv_at hl 1 rfl) ?_
  refine lv_bipush (v := 97) hx hb dX12_appends_14 (by decide) ?_
  refine kx_isub (v := 13) hx hb dX12_appends_16 (by decide) ?_
  refine lv_iconst (v := 1) hx hb dX12_appends_17 (by decide) ?_
  refine kx_iadd (v := 14) hx hb dX12_appends_18 (by decide) ?_
  refine lv_i2l (v := 14) hx hb dX12_appends_19 (by decide) ?_
  refine kx_ladd (v := 14) hx hb dX12_appends_20 (by decide) ?_
  exact kr_l hx hb hr hlocks hP hD hS (u := (() : Unit)) rfl [] rfl (by decide) (Nat.le_of_ble_eq_true rfl) (Nat.le_of_ble_eq_true rfl) dX12_appends_21

set_option maxRecDepth 100000 in
set_option maxHeartbeats 4000000 in
theorem cX12_appends_10 (l : Launch) (G : va_G) (cy : Nat → ClassId) (ev : Ev) (sz : Nat)   : Met l yX12_appends (WS yX12_appends cX12_appends 3 (some .long)) { frames := 0, cells := 0, slots := 0, locals := 0 } (PB [.long 14, .int 111] sz G cy ev []) (QBl (S := Unit) (fun (r : Int64) (u : Unit) => r = 393) G (fun u => []) (va_A [] sz)) 0 0 (va_A [] sz) := by
  refine met_of (y := yX12_appends) (L := 3) (av := [.long 14, .int 111]) (Qc := fun A => QBl (S := Unit) (fun (r : Int64) (u : Unit) => r = 393) G (fun u => []) A) (by decide) (Nat.le_of_ble_eq_true rfl) ?_
  intro p e s m below meth c hx hb hr hml hown hT hlocks hin hK A hA hE hP hD hS ls hl
  have hown : s.vm.findClass "LieClockModel" = some m.cls := hown
  have hl : lv_has ls 3 [(0, .long 14), (2, .int 111)] := hl
  refine lv_iload_n hx hb dX12_appends_0 rfl (lv_at hl 1 rfl) ?_
  refine lv_if_ne (tgt := 8) hx hb dX12_appends_1 (by decide) (fun _ => ?_) (fun c => absurd c (by decide))
  refine lv_ldc2 (v := 27) hx hb hown (hT _ tb_1374) dX12_appends_8 ?_
  refine lv_lload_n hx hb dX12_appends_11 rfl (lv_at hl 0 rfl) ?_
  refine kx_lmul (v := 378) hx hb dX12_appends_12 (by decide) ?_
  refine lv_iload_n hx hb dX12_appends_13 rfl (lv_at hl 1 rfl) ?_
  refine lv_bipush (v := 97) hx hb dX12_appends_14 (by decide) ?_
  refine kx_isub (v := 14) hx hb dX12_appends_16 (by decide) ?_
  refine lv_iconst (v := 1) hx hb dX12_appends_17 (by decide) ?_
  refine kx_iadd (v := 15) hx hb dX12_appends_18 (by decide) ?_
  refine lv_i2l (v := 15) hx hb dX12_appends_19 (by decide) ?_
  refine kx_ladd (v := 393) hx hb dX12_appends_20 (by decide) ?_
  exact kr_l hx hb hr hlocks hP hD hS (u := (() : Unit)) rfl [] rfl (by decide) (Nat.le_of_ble_eq_true rfl) (Nat.le_of_ble_eq_true rfl) dX12_appends_21

set_option maxRecDepth 100000 in
set_option maxHeartbeats 4000000 in
theorem cX12_appends_11 (l : Launch) (G : va_G) (cy : Nat → ClassId) (ev : Ev) (sz : Nat)   : Met l yX12_appends (WS yX12_appends cX12_appends 3 (some .long)) { frames := 0, cells := 0, slots := 0, locals := 0 } (PB [.long 393, .int 0] sz G cy ev []) (QBl (S := Unit) (fun (r : Int64) (u : Unit) => r = 393) G (fun u => []) (va_A [] sz)) 0 0 (va_A [] sz) := by
  refine met_of (y := yX12_appends) (L := 3) (av := [.long 393, .int 0]) (Qc := fun A => QBl (S := Unit) (fun (r : Int64) (u : Unit) => r = 393) G (fun u => []) A) (by decide) (Nat.le_of_ble_eq_true rfl) ?_
  intro p e s m below meth c hx hb hr hml hown hT hlocks hin hK A hA hE hP hD hS ls hl
  have hown : s.vm.findClass "LieClockModel" = some m.cls := hown
  have hl : lv_has ls 3 [(0, .long 393), (2, .int 0)] := hl
  refine lv_iload_n hx hb dX12_appends_0 rfl (lv_at hl 1 rfl) ?_
  refine lv_if_ne (tgt := 8) hx hb dX12_appends_1 (by decide) (fun c => absurd (by decide) c) (fun _ => ?_)
  refine lv_lload_n hx hb dX12_appends_4 rfl (lv_at hl 0 rfl) ?_
  refine lv_goto (tgt := 21) hx hb dX12_appends_5 (by decide) ?_
  exact kr_l hx hb hr hlocks hP hD hS (u := (() : Unit)) rfl [] rfl (by decide) (Nat.le_of_ble_eq_true rfl) (Nat.le_of_ble_eq_true rfl) dX12_appends_21

set_option maxRecDepth 100000 in
set_option maxHeartbeats 4000000 in
theorem cX12_word_2 (l : Launch) (G : va_G) (cy : Nat → ClassId) (ev : Ev) (sz : Nat)   : Met l yX12_word (WS yX12_word cX12_word 7 (some .long)) { frames := 1, cells := 0, slots := 0, locals := 22 } (PB [.int 110, .int 111, .int 0, .int 0, .int 0, .int 0, .int 0] sz G cy ev []) (QBl (S := Unit) (fun (r : Int64) (u : Unit) => r = 393) G (fun u => []) (va_A [] sz)) 0 0 (va_A [] sz) := by
  refine met_of (y := yX12_word) (L := 7) (av := [.int 110, .int 111, .int 0, .int 0, .int 0, .int 0, .int 0]) (Qc := fun A => QBl (S := Unit) (fun (r : Int64) (u : Unit) => r = 393) G (fun u => []) A) (by decide) (Nat.le_of_ble_eq_true rfl) ?_
  intro p e s m below meth c hx hb hr hml hown hT hlocks hin hK A hA hE hP hD hS ls hl
  have hown : s.vm.findClass "LieClockModel" = some m.cls := hown
  have hl : lv_has ls 7 [(0, .int 110), (1, .int 111), (2, .int 0), (3, .int 0), (4, .int 0), (5, .int 0), (6, .int 0)] := hl
  refine lv_lconst (v := 0) hx hb dX12_word_0 (by decide) ?_
  refine lv_iload_n hx hb dX12_word_1 rfl (lv_at hl 0 rfl) ?_
  refine kc_l (W1 := []) (wr := []) [] [] rfl rfl (by decide) (by decide) hP hD hS hA (va_runS (As := [.long 0, .int 110]) (rest := []) ⟨hx, hb, hml, hown, hT⟩ (cX12_appends_9 l G cy ev _ ) (va_cwS 2 hT (good_S tb_1373 tb_1371 tb_1372 tb_122) rfl rfl rfl (by decide +kernel) ⟨Nat.le_of_ble_eq_true rfl, Nat.le_of_ble_eq_true rfl⟩) (PB.preS hK hE hS hA hP hD [] rfl (by decide)) rfl rfl hl.1 rfl (lv_room (Nat.le_of_ble_eq_true rfl)) dX12_word_2 ⟨Nat.le_of_ble_eq_true rfl, Nat.le_of_ble_eq_true rfl⟩) (fun r u H locs hw hP hD hS => ?_)
  obtain rfl : r = 14 := hw
  obtain ⟨hP, hD⟩ : PD G A [] H := ⟨hP, hD⟩
  refine lv_iload_n hx hb dX12_word_5 rfl (lv_at hl 1 rfl) ?_
  refine kc_l (W1 := []) (wr := []) [] [] rfl rfl (by decide) (by decide) hP hD hS hA (va_runS (As := [.long 14, .int 111]) (rest := []) ⟨hx, hb, hml, hown, hT⟩ (cX12_appends_10 l G cy ev _ ) (va_cwS 2 hT (good_S tb_1373 tb_1371 tb_1372 tb_122) rfl rfl rfl (by decide +kernel) ⟨Nat.le_of_ble_eq_true rfl, Nat.le_of_ble_eq_true rfl⟩) (PB.preS hK hE hS hA hP hD [] rfl (by decide)) rfl rfl hl.1 rfl (lv_room (Nat.le_of_ble_eq_true rfl)) dX12_word_6 ⟨Nat.le_of_ble_eq_true rfl, Nat.le_of_ble_eq_true rfl⟩) (fun r u H locs hw hP hD hS => ?_)
  obtain rfl : r = 393 := hw
  obtain ⟨hP, hD⟩ : PD G A [] H := ⟨hP, hD⟩
  refine lv_iload_n hx hb dX12_word_9 rfl (lv_at hl 2 rfl) ?_
  refine kc_l (W1 := []) (wr := []) [] [] rfl rfl (by decide) (by decide) hP hD hS hA (va_runS (As := [.long 393, .int 0]) (rest := []) ⟨hx, hb, hml, hown, hT⟩ (cX12_appends_11 l G cy ev _ ) (va_cwS 2 hT (good_S tb_1373 tb_1371 tb_1372 tb_122) rfl rfl rfl (by decide +kernel) ⟨Nat.le_of_ble_eq_true rfl, Nat.le_of_ble_eq_true rfl⟩) (PB.preS hK hE hS hA hP hD [] rfl (by decide)) rfl rfl hl.1 rfl (lv_room (Nat.le_of_ble_eq_true rfl)) dX12_word_10 ⟨Nat.le_of_ble_eq_true rfl, Nat.le_of_ble_eq_true rfl⟩) (fun r u H locs hw hP hD hS => ?_)
  obtain rfl : r = 393 := hw
  obtain ⟨hP, hD⟩ : PD G A [] H := ⟨hP, hD⟩
  refine lv_iload_n hx hb dX12_word_13 rfl (lv_at hl 3 rfl) ?_
  refine kc_l (W1 := []) (wr := []) [] [] rfl rfl (by decide) (by decide) hP hD hS hA (va_runS (As := [.long 393, .int 0]) (rest := []) ⟨hx, hb, hml, hown, hT⟩ (cX12_appends_11 l G cy ev _ ) (va_cwS 2 hT (good_S tb_1373 tb_1371 tb_1372 tb_122) rfl rfl rfl (by decide +kernel) ⟨Nat.le_of_ble_eq_true rfl, Nat.le_of_ble_eq_true rfl⟩) (PB.preS hK hE hS hA hP hD [] rfl (by decide)) rfl rfl hl.1 rfl (lv_room (Nat.le_of_ble_eq_true rfl)) dX12_word_14 ⟨Nat.le_of_ble_eq_true rfl, Nat.le_of_ble_eq_true rfl⟩) (fun r u H locs hw hP hD hS => ?_)
  obtain rfl : r = 393 := hw
  obtain ⟨hP, hD⟩ : PD G A [] H := ⟨hP, hD⟩
  refine lv_iload hx hb dX12_word_17 (lv_at hl 4 rfl) ?_
  refine kc_l (W1 := []) (wr := []) [] [] rfl rfl (by decide) (by decide) hP hD hS hA (va_runS (As := [.long 393, .int 0]) (rest := []) ⟨hx, hb, hml, hown, hT⟩ (cX12_appends_11 l G cy ev _ ) (va_cwS 2 hT (good_S tb_1373 tb_1371 tb_1372 tb_122) rfl rfl rfl (by decide +kernel) ⟨Nat.le_of_ble_eq_true rfl, Nat.le_of_ble_eq_true rfl⟩) (PB.preS hK hE hS hA hP hD [] rfl (by decide)) rfl rfl hl.1 rfl (lv_room (Nat.le_of_ble_eq_true rfl)) dX12_word_19 ⟨Nat.le_of_ble_eq_true rfl, Nat.le_of_ble_eq_true rfl⟩) (fun r u H locs hw hP hD hS => ?_)
  obtain rfl : r = 393 := hw
  obtain ⟨hP, hD⟩ : PD G A [] H := ⟨hP, hD⟩
  refine lv_iload hx hb dX12_word_22 (lv_at hl 5 rfl) ?_
  refine kc_l (W1 := []) (wr := []) [] [] rfl rfl (by decide) (by decide) hP hD hS hA (va_runS (As := [.long 393, .int 0]) (rest := []) ⟨hx, hb, hml, hown, hT⟩ (cX12_appends_11 l G cy ev _ ) (va_cwS 2 hT (good_S tb_1373 tb_1371 tb_1372 tb_122) rfl rfl rfl (by decide +kernel) ⟨Nat.le_of_ble_eq_true rfl, Nat.le_of_ble_eq_true rfl⟩) (PB.preS hK hE hS hA hP hD [] rfl (by decide)) rfl rfl hl.1 rfl (lv_room (Nat.le_of_ble_eq_true rfl)) dX12_word_24 ⟨Nat.le_of_ble_eq_true rfl, Nat.le_of_ble_eq_true rfl⟩) (fun r u H locs hw hP hD hS => ?_)
  obtain rfl : r = 393 := hw
  obtain ⟨hP, hD⟩ : PD G A [] H := ⟨hP, hD⟩
  refine lv_iload hx hb dX12_word_27 (lv_at hl 6 rfl) ?_
  refine kc_l (W1 := []) (wr := []) [] [] rfl rfl (by decide) (by decide) hP hD hS hA (va_runS (As := [.long 393, .int 0]) (rest := []) ⟨hx, hb, hml, hown, hT⟩ (cX12_appends_11 l G cy ev _ ) (va_cwS 2 hT (good_S tb_1373 tb_1371 tb_1372 tb_122) rfl rfl rfl (by decide +kernel) ⟨Nat.le_of_ble_eq_true rfl, Nat.le_of_ble_eq_true rfl⟩) (PB.preS hK hE hS hA hP hD [] rfl (by decide)) rfl rfl hl.1 rfl (lv_room (Nat.le_of_ble_eq_true rfl)) dX12_word_29 ⟨Nat.le_of_ble_eq_true rfl, Nat.le_of_ble_eq_true rfl⟩) (fun r u H locs hw hP hD hS => ?_)
  obtain rfl : r = 393 := hw
  obtain ⟨hP, hD⟩ : PD G A [] H := ⟨hP, hD⟩
  exact kr_l hx hb hr hlocks hP hD hS (u := (() : Unit)) rfl [] rfl (by decide) (Nat.le_of_ble_eq_true rfl) (Nat.le_of_ble_eq_true rfl) dX12_word_32

set_option maxRecDepth 100000 in
set_option maxHeartbeats 4000000 in
theorem cX12_appends_12 (l : Launch) (G : va_G) (cy : Nat → ClassId) (ev : Ev) (sz : Nat)   : Met l yX12_appends (WS yX12_appends cX12_appends 3 (some .long)) { frames := 0, cells := 0, slots := 0, locals := 0 } (PB [.long 0, .int 111] sz G cy ev []) (QBl (S := Unit) (fun (r : Int64) (u : Unit) => r = 15) G (fun u => []) (va_A [] sz)) 0 0 (va_A [] sz) := by
  refine met_of (y := yX12_appends) (L := 3) (av := [.long 0, .int 111]) (Qc := fun A => QBl (S := Unit) (fun (r : Int64) (u : Unit) => r = 15) G (fun u => []) A) (by decide) (Nat.le_of_ble_eq_true rfl) ?_
  intro p e s m below meth c hx hb hr hml hown hT hlocks hin hK A hA hE hP hD hS ls hl
  have hown : s.vm.findClass "LieClockModel" = some m.cls := hown
  have hl : lv_has ls 3 [(0, .long 0), (2, .int 111)] := hl
  refine lv_iload_n hx hb dX12_appends_0 rfl (lv_at hl 1 rfl) ?_
  refine lv_if_ne (tgt := 8) hx hb dX12_appends_1 (by decide) (fun _ => ?_) (fun c => absurd c (by decide))
  refine lv_ldc2 (v := 27) hx hb hown (hT _ tb_1374) dX12_appends_8 ?_
  refine lv_lload_n hx hb dX12_appends_11 rfl (lv_at hl 0 rfl) ?_
  refine kx_lmul (v := 0) hx hb dX12_appends_12 (by decide) ?_
  refine lv_iload_n hx hb dX12_appends_13 rfl (lv_at hl 1 rfl) ?_
  refine lv_bipush (v := 97) hx hb dX12_appends_14 (by decide) ?_
  refine kx_isub (v := 14) hx hb dX12_appends_16 (by decide) ?_
  refine lv_iconst (v := 1) hx hb dX12_appends_17 (by decide) ?_
  refine kx_iadd (v := 15) hx hb dX12_appends_18 (by decide) ?_
  refine lv_i2l (v := 15) hx hb dX12_appends_19 (by decide) ?_
  refine kx_ladd (v := 15) hx hb dX12_appends_20 (by decide) ?_
  exact kr_l hx hb hr hlocks hP hD hS (u := (() : Unit)) rfl [] rfl (by decide) (Nat.le_of_ble_eq_true rfl) (Nat.le_of_ble_eq_true rfl) dX12_appends_21

set_option maxRecDepth 100000 in
set_option maxHeartbeats 4000000 in
theorem cX12_appends_13 (l : Launch) (G : va_G) (cy : Nat → ClassId) (ev : Ev) (sz : Nat)   : Met l yX12_appends (WS yX12_appends cX12_appends 3 (some .long)) { frames := 0, cells := 0, slots := 0, locals := 0 } (PB [.long 15, .int 112] sz G cy ev []) (QBl (S := Unit) (fun (r : Int64) (u : Unit) => r = 421) G (fun u => []) (va_A [] sz)) 0 0 (va_A [] sz) := by
  refine met_of (y := yX12_appends) (L := 3) (av := [.long 15, .int 112]) (Qc := fun A => QBl (S := Unit) (fun (r : Int64) (u : Unit) => r = 421) G (fun u => []) A) (by decide) (Nat.le_of_ble_eq_true rfl) ?_
  intro p e s m below meth c hx hb hr hml hown hT hlocks hin hK A hA hE hP hD hS ls hl
  have hown : s.vm.findClass "LieClockModel" = some m.cls := hown
  have hl : lv_has ls 3 [(0, .long 15), (2, .int 112)] := hl
  refine lv_iload_n hx hb dX12_appends_0 rfl (lv_at hl 1 rfl) ?_
  refine lv_if_ne (tgt := 8) hx hb dX12_appends_1 (by decide) (fun _ => ?_) (fun c => absurd c (by decide))
  refine lv_ldc2 (v := 27) hx hb hown (hT _ tb_1374) dX12_appends_8 ?_
  refine lv_lload_n hx hb dX12_appends_11 rfl (lv_at hl 0 rfl) ?_
  refine kx_lmul (v := 405) hx hb dX12_appends_12 (by decide) ?_
  refine lv_iload_n hx hb dX12_appends_13 rfl (lv_at hl 1 rfl) ?_
  refine lv_bipush (v := 97) hx hb dX12_appends_14 (by decide) ?_
  refine kx_isub (v := 15) hx hb dX12_appends_16 (by decide) ?_
  refine lv_iconst (v := 1) hx hb dX12_appends_17 (by decide) ?_
  refine kx_iadd (v := 16) hx hb dX12_appends_18 (by decide) ?_
  refine lv_i2l (v := 16) hx hb dX12_appends_19 (by decide) ?_
  refine kx_ladd (v := 421) hx hb dX12_appends_20 (by decide) ?_
  exact kr_l hx hb hr hlocks hP hD hS (u := (() : Unit)) rfl [] rfl (by decide) (Nat.le_of_ble_eq_true rfl) (Nat.le_of_ble_eq_true rfl) dX12_appends_21

set_option maxRecDepth 100000 in
set_option maxHeartbeats 4000000 in
theorem cX12_appends_14 (l : Launch) (G : va_G) (cy : Nat → ClassId) (ev : Ev) (sz : Nat)   : Met l yX12_appends (WS yX12_appends cX12_appends 3 (some .long)) { frames := 0, cells := 0, slots := 0, locals := 0 } (PB [.long 421, .int 101] sz G cy ev []) (QBl (S := Unit) (fun (r : Int64) (u : Unit) => r = 11372) G (fun u => []) (va_A [] sz)) 0 0 (va_A [] sz) := by
  refine met_of (y := yX12_appends) (L := 3) (av := [.long 421, .int 101]) (Qc := fun A => QBl (S := Unit) (fun (r : Int64) (u : Unit) => r = 11372) G (fun u => []) A) (by decide) (Nat.le_of_ble_eq_true rfl) ?_
  intro p e s m below meth c hx hb hr hml hown hT hlocks hin hK A hA hE hP hD hS ls hl
  have hown : s.vm.findClass "LieClockModel" = some m.cls := hown
  have hl : lv_has ls 3 [(0, .long 421), (2, .int 101)] := hl
  refine lv_iload_n hx hb dX12_appends_0 rfl (lv_at hl 1 rfl) ?_
  refine lv_if_ne (tgt := 8) hx hb dX12_appends_1 (by decide) (fun _ => ?_) (fun c => absurd c (by decide))
  refine lv_ldc2 (v := 27) hx hb hown (hT _ tb_1374) dX12_appends_8 ?_
  refine lv_lload_n hx hb dX12_appends_11 rfl (lv_at hl 0 rfl) ?_
  refine kx_lmul (v := 11367) hx hb dX12_appends_12 (by decide) ?_
  refine lv_iload_n hx hb dX12_appends_13 rfl (lv_at hl 1 rfl) ?_
  refine lv_bipush (v := 97) hx hb dX12_appends_14 (by decide) ?_
  refine kx_isub (v := 4) hx hb dX12_appends_16 (by decide) ?_
  refine lv_iconst (v := 1) hx hb dX12_appends_17 (by decide) ?_
  refine kx_iadd (v := 5) hx hb dX12_appends_18 (by decide) ?_
  refine lv_i2l (v := 5) hx hb dX12_appends_19 (by decide) ?_
  refine kx_ladd (v := 11372) hx hb dX12_appends_20 (by decide) ?_
  exact kr_l hx hb hr hlocks hP hD hS (u := (() : Unit)) rfl [] rfl (by decide) (Nat.le_of_ble_eq_true rfl) (Nat.le_of_ble_eq_true rfl) dX12_appends_21

set_option maxRecDepth 100000 in
set_option maxHeartbeats 4000000 in
theorem cX12_appends_15 (l : Launch) (G : va_G) (cy : Nat → ClassId) (ev : Ev) (sz : Nat)   : Met l yX12_appends (WS yX12_appends cX12_appends 3 (some .long)) { frames := 0, cells := 0, slots := 0, locals := 0 } (PB [.long 11372, .int 110] sz G cy ev []) (QBl (S := Unit) (fun (r : Int64) (u : Unit) => r = 307058) G (fun u => []) (va_A [] sz)) 0 0 (va_A [] sz) := by
  refine met_of (y := yX12_appends) (L := 3) (av := [.long 11372, .int 110]) (Qc := fun A => QBl (S := Unit) (fun (r : Int64) (u : Unit) => r = 307058) G (fun u => []) A) (by decide) (Nat.le_of_ble_eq_true rfl) ?_
  intro p e s m below meth c hx hb hr hml hown hT hlocks hin hK A hA hE hP hD hS ls hl
  have hown : s.vm.findClass "LieClockModel" = some m.cls := hown
  have hl : lv_has ls 3 [(0, .long 11372), (2, .int 110)] := hl
  refine lv_iload_n hx hb dX12_appends_0 rfl (lv_at hl 1 rfl) ?_
  refine lv_if_ne (tgt := 8) hx hb dX12_appends_1 (by decide) (fun _ => ?_) (fun c => absurd c (by decide))
  refine lv_ldc2 (v := 27) hx hb hown (hT _ tb_1374) dX12_appends_8 ?_
  refine lv_lload_n hx hb dX12_appends_11 rfl (lv_at hl 0 rfl) ?_
  refine kx_lmul (v := 307044) hx hb dX12_appends_12 (by decide) ?_
  refine lv_iload_n hx hb dX12_appends_13 rfl (lv_at hl 1 rfl) ?_
  refine lv_bipush (v := 97) hx hb dX12_appends_14 (by decide) ?_
  refine kx_isub (v := 13) hx hb dX12_appends_16 (by decide) ?_
  refine lv_iconst (v := 1) hx hb dX12_appends_17 (by decide) ?_
  refine kx_iadd (v := 14) hx hb dX12_appends_18 (by decide) ?_
  refine lv_i2l (v := 14) hx hb dX12_appends_19 (by decide) ?_
  refine kx_ladd (v := 307058) hx hb dX12_appends_20 (by decide) ?_
  exact kr_l hx hb hr hlocks hP hD hS (u := (() : Unit)) rfl [] rfl (by decide) (Nat.le_of_ble_eq_true rfl) (Nat.le_of_ble_eq_true rfl) dX12_appends_21

set_option maxRecDepth 100000 in
set_option maxHeartbeats 4000000 in
theorem cX12_appends_16 (l : Launch) (G : va_G) (cy : Nat → ClassId) (ev : Ev) (sz : Nat)   : Met l yX12_appends (WS yX12_appends cX12_appends 3 (some .long)) { frames := 0, cells := 0, slots := 0, locals := 0 } (PB [.long 307058, .int 0] sz G cy ev []) (QBl (S := Unit) (fun (r : Int64) (u : Unit) => r = 307058) G (fun u => []) (va_A [] sz)) 0 0 (va_A [] sz) := by
  refine met_of (y := yX12_appends) (L := 3) (av := [.long 307058, .int 0]) (Qc := fun A => QBl (S := Unit) (fun (r : Int64) (u : Unit) => r = 307058) G (fun u => []) A) (by decide) (Nat.le_of_ble_eq_true rfl) ?_
  intro p e s m below meth c hx hb hr hml hown hT hlocks hin hK A hA hE hP hD hS ls hl
  have hown : s.vm.findClass "LieClockModel" = some m.cls := hown
  have hl : lv_has ls 3 [(0, .long 307058), (2, .int 0)] := hl
  refine lv_iload_n hx hb dX12_appends_0 rfl (lv_at hl 1 rfl) ?_
  refine lv_if_ne (tgt := 8) hx hb dX12_appends_1 (by decide) (fun c => absurd (by decide) c) (fun _ => ?_)
  refine lv_lload_n hx hb dX12_appends_4 rfl (lv_at hl 0 rfl) ?_
  refine lv_goto (tgt := 21) hx hb dX12_appends_5 (by decide) ?_
  exact kr_l hx hb hr hlocks hP hD hS (u := (() : Unit)) rfl [] rfl (by decide) (Nat.le_of_ble_eq_true rfl) (Nat.le_of_ble_eq_true rfl) dX12_appends_21

set_option maxRecDepth 100000 in
set_option maxHeartbeats 4000000 in
theorem cX12_word_3 (l : Launch) (G : va_G) (cy : Nat → ClassId) (ev : Ev) (sz : Nat)   : Met l yX12_word (WS yX12_word cX12_word 7 (some .long)) { frames := 1, cells := 0, slots := 0, locals := 22 } (PB [.int 111, .int 112, .int 101, .int 110, .int 0, .int 0, .int 0] sz G cy ev []) (QBl (S := Unit) (fun (r : Int64) (u : Unit) => r = 307058) G (fun u => []) (va_A [] sz)) 0 0 (va_A [] sz) := by
  refine met_of (y := yX12_word) (L := 7) (av := [.int 111, .int 112, .int 101, .int 110, .int 0, .int 0, .int 0]) (Qc := fun A => QBl (S := Unit) (fun (r : Int64) (u : Unit) => r = 307058) G (fun u => []) A) (by decide) (Nat.le_of_ble_eq_true rfl) ?_
  intro p e s m below meth c hx hb hr hml hown hT hlocks hin hK A hA hE hP hD hS ls hl
  have hown : s.vm.findClass "LieClockModel" = some m.cls := hown
  have hl : lv_has ls 7 [(0, .int 111), (1, .int 112), (2, .int 101), (3, .int 110), (4, .int 0), (5, .int 0), (6, .int 0)] := hl
  refine lv_lconst (v := 0) hx hb dX12_word_0 (by decide) ?_
  refine lv_iload_n hx hb dX12_word_1 rfl (lv_at hl 0 rfl) ?_
  refine kc_l (W1 := []) (wr := []) [] [] rfl rfl (by decide) (by decide) hP hD hS hA (va_runS (As := [.long 0, .int 111]) (rest := []) ⟨hx, hb, hml, hown, hT⟩ (cX12_appends_12 l G cy ev _ ) (va_cwS 2 hT (good_S tb_1373 tb_1371 tb_1372 tb_122) rfl rfl rfl (by decide +kernel) ⟨Nat.le_of_ble_eq_true rfl, Nat.le_of_ble_eq_true rfl⟩) (PB.preS hK hE hS hA hP hD [] rfl (by decide)) rfl rfl hl.1 rfl (lv_room (Nat.le_of_ble_eq_true rfl)) dX12_word_2 ⟨Nat.le_of_ble_eq_true rfl, Nat.le_of_ble_eq_true rfl⟩) (fun r u H locs hw hP hD hS => ?_)
  obtain rfl : r = 15 := hw
  obtain ⟨hP, hD⟩ : PD G A [] H := ⟨hP, hD⟩
  refine lv_iload_n hx hb dX12_word_5 rfl (lv_at hl 1 rfl) ?_
  refine kc_l (W1 := []) (wr := []) [] [] rfl rfl (by decide) (by decide) hP hD hS hA (va_runS (As := [.long 15, .int 112]) (rest := []) ⟨hx, hb, hml, hown, hT⟩ (cX12_appends_13 l G cy ev _ ) (va_cwS 2 hT (good_S tb_1373 tb_1371 tb_1372 tb_122) rfl rfl rfl (by decide +kernel) ⟨Nat.le_of_ble_eq_true rfl, Nat.le_of_ble_eq_true rfl⟩) (PB.preS hK hE hS hA hP hD [] rfl (by decide)) rfl rfl hl.1 rfl (lv_room (Nat.le_of_ble_eq_true rfl)) dX12_word_6 ⟨Nat.le_of_ble_eq_true rfl, Nat.le_of_ble_eq_true rfl⟩) (fun r u H locs hw hP hD hS => ?_)
  obtain rfl : r = 421 := hw
  obtain ⟨hP, hD⟩ : PD G A [] H := ⟨hP, hD⟩
  refine lv_iload_n hx hb dX12_word_9 rfl (lv_at hl 2 rfl) ?_
  refine kc_l (W1 := []) (wr := []) [] [] rfl rfl (by decide) (by decide) hP hD hS hA (va_runS (As := [.long 421, .int 101]) (rest := []) ⟨hx, hb, hml, hown, hT⟩ (cX12_appends_14 l G cy ev _ ) (va_cwS 2 hT (good_S tb_1373 tb_1371 tb_1372 tb_122) rfl rfl rfl (by decide +kernel) ⟨Nat.le_of_ble_eq_true rfl, Nat.le_of_ble_eq_true rfl⟩) (PB.preS hK hE hS hA hP hD [] rfl (by decide)) rfl rfl hl.1 rfl (lv_room (Nat.le_of_ble_eq_true rfl)) dX12_word_10 ⟨Nat.le_of_ble_eq_true rfl, Nat.le_of_ble_eq_true rfl⟩) (fun r u H locs hw hP hD hS => ?_)
  obtain rfl : r = 11372 := hw
  obtain ⟨hP, hD⟩ : PD G A [] H := ⟨hP, hD⟩
  refine lv_iload_n hx hb dX12_word_13 rfl (lv_at hl 3 rfl) ?_
  refine kc_l (W1 := []) (wr := []) [] [] rfl rfl (by decide) (by decide) hP hD hS hA (va_runS (As := [.long 11372, .int 110]) (rest := []) ⟨hx, hb, hml, hown, hT⟩ (cX12_appends_15 l G cy ev _ ) (va_cwS 2 hT (good_S tb_1373 tb_1371 tb_1372 tb_122) rfl rfl rfl (by decide +kernel) ⟨Nat.le_of_ble_eq_true rfl, Nat.le_of_ble_eq_true rfl⟩) (PB.preS hK hE hS hA hP hD [] rfl (by decide)) rfl rfl hl.1 rfl (lv_room (Nat.le_of_ble_eq_true rfl)) dX12_word_14 ⟨Nat.le_of_ble_eq_true rfl, Nat.le_of_ble_eq_true rfl⟩) (fun r u H locs hw hP hD hS => ?_)
  obtain rfl : r = 307058 := hw
  obtain ⟨hP, hD⟩ : PD G A [] H := ⟨hP, hD⟩
  refine lv_iload hx hb dX12_word_17 (lv_at hl 4 rfl) ?_
  refine kc_l (W1 := []) (wr := []) [] [] rfl rfl (by decide) (by decide) hP hD hS hA (va_runS (As := [.long 307058, .int 0]) (rest := []) ⟨hx, hb, hml, hown, hT⟩ (cX12_appends_16 l G cy ev _ ) (va_cwS 2 hT (good_S tb_1373 tb_1371 tb_1372 tb_122) rfl rfl rfl (by decide +kernel) ⟨Nat.le_of_ble_eq_true rfl, Nat.le_of_ble_eq_true rfl⟩) (PB.preS hK hE hS hA hP hD [] rfl (by decide)) rfl rfl hl.1 rfl (lv_room (Nat.le_of_ble_eq_true rfl)) dX12_word_19 ⟨Nat.le_of_ble_eq_true rfl, Nat.le_of_ble_eq_true rfl⟩) (fun r u H locs hw hP hD hS => ?_)
  obtain rfl : r = 307058 := hw
  obtain ⟨hP, hD⟩ : PD G A [] H := ⟨hP, hD⟩
  refine lv_iload hx hb dX12_word_22 (lv_at hl 5 rfl) ?_
  refine kc_l (W1 := []) (wr := []) [] [] rfl rfl (by decide) (by decide) hP hD hS hA (va_runS (As := [.long 307058, .int 0]) (rest := []) ⟨hx, hb, hml, hown, hT⟩ (cX12_appends_16 l G cy ev _ ) (va_cwS 2 hT (good_S tb_1373 tb_1371 tb_1372 tb_122) rfl rfl rfl (by decide +kernel) ⟨Nat.le_of_ble_eq_true rfl, Nat.le_of_ble_eq_true rfl⟩) (PB.preS hK hE hS hA hP hD [] rfl (by decide)) rfl rfl hl.1 rfl (lv_room (Nat.le_of_ble_eq_true rfl)) dX12_word_24 ⟨Nat.le_of_ble_eq_true rfl, Nat.le_of_ble_eq_true rfl⟩) (fun r u H locs hw hP hD hS => ?_)
  obtain rfl : r = 307058 := hw
  obtain ⟨hP, hD⟩ : PD G A [] H := ⟨hP, hD⟩
  refine lv_iload hx hb dX12_word_27 (lv_at hl 6 rfl) ?_
  refine kc_l (W1 := []) (wr := []) [] [] rfl rfl (by decide) (by decide) hP hD hS hA (va_runS (As := [.long 307058, .int 0]) (rest := []) ⟨hx, hb, hml, hown, hT⟩ (cX12_appends_16 l G cy ev _ ) (va_cwS 2 hT (good_S tb_1373 tb_1371 tb_1372 tb_122) rfl rfl rfl (by decide +kernel) ⟨Nat.le_of_ble_eq_true rfl, Nat.le_of_ble_eq_true rfl⟩) (PB.preS hK hE hS hA hP hD [] rfl (by decide)) rfl rfl hl.1 rfl (lv_room (Nat.le_of_ble_eq_true rfl)) dX12_word_29 ⟨Nat.le_of_ble_eq_true rfl, Nat.le_of_ble_eq_true rfl⟩) (fun r u H locs hw hP hD hS => ?_)
  obtain rfl : r = 307058 := hw
  obtain ⟨hP, hD⟩ : PD G A [] H := ⟨hP, hD⟩
  exact kr_l hx hb hr hlocks hP hD hS (u := (() : Unit)) rfl [] rfl (by decide) (Nat.le_of_ble_eq_true rfl) (Nat.le_of_ble_eq_true rfl) dX12_word_32

set_option maxRecDepth 100000 in
set_option maxHeartbeats 4000000 in
theorem cX12_appends_17 (l : Launch) (G : va_G) (cy : Nat → ClassId) (ev : Ev) (sz : Nat)   : Met l yX12_appends (WS yX12_appends cX12_appends 3 (some .long)) { frames := 0, cells := 0, slots := 0, locals := 0 } (PB [.long 0, .int 119] sz G cy ev []) (QBl (S := Unit) (fun (r : Int64) (u : Unit) => r = 23) G (fun u => []) (va_A [] sz)) 0 0 (va_A [] sz) := by
  refine met_of (y := yX12_appends) (L := 3) (av := [.long 0, .int 119]) (Qc := fun A => QBl (S := Unit) (fun (r : Int64) (u : Unit) => r = 23) G (fun u => []) A) (by decide) (Nat.le_of_ble_eq_true rfl) ?_
  intro p e s m below meth c hx hb hr hml hown hT hlocks hin hK A hA hE hP hD hS ls hl
  have hown : s.vm.findClass "LieClockModel" = some m.cls := hown
  have hl : lv_has ls 3 [(0, .long 0), (2, .int 119)] := hl
  refine lv_iload_n hx hb dX12_appends_0 rfl (lv_at hl 1 rfl) ?_
  refine lv_if_ne (tgt := 8) hx hb dX12_appends_1 (by decide) (fun _ => ?_) (fun c => absurd c (by decide))
  refine lv_ldc2 (v := 27) hx hb hown (hT _ tb_1374) dX12_appends_8 ?_
  refine lv_lload_n hx hb dX12_appends_11 rfl (lv_at hl 0 rfl) ?_
  refine kx_lmul (v := 0) hx hb dX12_appends_12 (by decide) ?_
  refine lv_iload_n hx hb dX12_appends_13 rfl (lv_at hl 1 rfl) ?_
  refine lv_bipush (v := 97) hx hb dX12_appends_14 (by decide) ?_
  refine kx_isub (v := 22) hx hb dX12_appends_16 (by decide) ?_
  refine lv_iconst (v := 1) hx hb dX12_appends_17 (by decide) ?_
  refine kx_iadd (v := 23) hx hb dX12_appends_18 (by decide) ?_
  refine lv_i2l (v := 23) hx hb dX12_appends_19 (by decide) ?_
  refine kx_ladd (v := 23) hx hb dX12_appends_20 (by decide) ?_
  exact kr_l hx hb hr hlocks hP hD hS (u := (() : Unit)) rfl [] rfl (by decide) (Nat.le_of_ble_eq_true rfl) (Nat.le_of_ble_eq_true rfl) dX12_appends_21

set_option maxRecDepth 100000 in
set_option maxHeartbeats 4000000 in
theorem cX12_appends_18 (l : Launch) (G : va_G) (cy : Nat → ClassId) (ev : Ev) (sz : Nat)   : Met l yX12_appends (WS yX12_appends cX12_appends 3 (some .long)) { frames := 0, cells := 0, slots := 0, locals := 0 } (PB [.long 23, .int 105] sz G cy ev []) (QBl (S := Unit) (fun (r : Int64) (u : Unit) => r = 630) G (fun u => []) (va_A [] sz)) 0 0 (va_A [] sz) := by
  refine met_of (y := yX12_appends) (L := 3) (av := [.long 23, .int 105]) (Qc := fun A => QBl (S := Unit) (fun (r : Int64) (u : Unit) => r = 630) G (fun u => []) A) (by decide) (Nat.le_of_ble_eq_true rfl) ?_
  intro p e s m below meth c hx hb hr hml hown hT hlocks hin hK A hA hE hP hD hS ls hl
  have hown : s.vm.findClass "LieClockModel" = some m.cls := hown
  have hl : lv_has ls 3 [(0, .long 23), (2, .int 105)] := hl
  refine lv_iload_n hx hb dX12_appends_0 rfl (lv_at hl 1 rfl) ?_
  refine lv_if_ne (tgt := 8) hx hb dX12_appends_1 (by decide) (fun _ => ?_) (fun c => absurd c (by decide))
  refine lv_ldc2 (v := 27) hx hb hown (hT _ tb_1374) dX12_appends_8 ?_
  refine lv_lload_n hx hb dX12_appends_11 rfl (lv_at hl 0 rfl) ?_
  refine kx_lmul (v := 621) hx hb dX12_appends_12 (by decide) ?_
  refine lv_iload_n hx hb dX12_appends_13 rfl (lv_at hl 1 rfl) ?_
  refine lv_bipush (v := 97) hx hb dX12_appends_14 (by decide) ?_
  refine kx_isub (v := 8) hx hb dX12_appends_16 (by decide) ?_
  refine lv_iconst (v := 1) hx hb dX12_appends_17 (by decide) ?_
  refine kx_iadd (v := 9) hx hb dX12_appends_18 (by decide) ?_
  refine lv_i2l (v := 9) hx hb dX12_appends_19 (by decide) ?_
  refine kx_ladd (v := 630) hx hb dX12_appends_20 (by decide) ?_
  exact kr_l hx hb hr hlocks hP hD hS (u := (() : Unit)) rfl [] rfl (by decide) (Nat.le_of_ble_eq_true rfl) (Nat.le_of_ble_eq_true rfl) dX12_appends_21
