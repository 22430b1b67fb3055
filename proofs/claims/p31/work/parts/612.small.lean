set_option maxRecDepth 100000 in
set_option maxHeartbeats 4000000 in
theorem zcX12_word_5 (l : Launch) (G : va_G) (cy : Nat → ClassId) (ev : Ev) (sz : Nat)   : Met l yX12_word (WS yX12_word cX12_word 7 (some .long)) { frames := 1, cells := 0, slots := 0, locals := 22 } (PB [.int 119, .int 111, .int 114, .int 100, .int 0, .int 0, .int 0] sz G cy ev []) (QBl (S := Unit) (fun (r : Int64) (u : Unit) => r = 464134) G (fun u => []) (va_A [] sz)) 0 0 (va_A [] sz) := by
  refine met_of (y := yX12_word) (L := 7) (av := [.int 119, .int 111, .int 114, .int 100, .int 0, .int 0, .int 0]) (Qc := fun A => QBl (S := Unit) (fun (r : Int64) (u : Unit) => r = 464134) G (fun u => []) A) (by decide) (Nat.le_of_ble_eq_true rfl) ?_
  intro p e s m below meth c hx hb hr hml hown hT hlocks hin hK A hA hE hP hD hS ls hl
  have hown : s.vm.findClass "LieClockModel" = some m.cls := hown
  have hl : lv_has ls 7 [(0, .int 119), (1, .int 111), (2, .int 114), (3, .int 100), (4, .int 0), (5, .int 0), (6, .int 0)] := hl
  refine lv_lconst (v := 0) hx hb dX12_word_0 (by decide) ?_
  refine lv_iload_n hx hb dX12_word_1 rfl (lv_at hl 0 rfl) ?_
  refine kc_l (W1 := []) (wr := []) [] [] rfl rfl (by decide) (by decide) hP hD hS hA (va_runS (As := [.long 0, .int 119]) (rest := []) ⟨hx, hb, hml, hown, hT⟩ (zcX12_appends_17 l G cy ev _ ) (va_cwS 2 hT (good_S tb_1373 tb_1371 tb_1372 tb_122) rfl rfl rfl (by decide +kernel) ⟨Nat.le_of_ble_eq_true rfl, Nat.le_of_ble_eq_true rfl⟩) (PB.preS hK hE hS hA hP hD [] rfl (by decide)) rfl rfl hl.1 rfl (lv_room (Nat.le_of_ble_eq_true rfl)) dX12_word_2 ⟨Nat.le_of_ble_eq_true rfl, Nat.le_of_ble_eq_true rfl⟩) (fun r u H locs hw hP hD hS => ?_)
  obtain rfl : r = 23 := hw
  obtain ⟨hP, hD⟩ : PD G A [] H := ⟨hP, hD⟩
  refine lv_iload_n hx hb dX12_word_5 rfl (lv_at hl 1 rfl) ?_
  refine kc_l (W1 := []) (wr := []) [] [] rfl rfl (by decide) (by decide) hP hD hS hA (va_runS (As := [.long 23, .int 111]) (rest := []) ⟨hx, hb, hml, hown, hT⟩ (zcX12_appends_24 l G cy ev _ ) (va_cwS 2 hT (good_S tb_1373 tb_1371 tb_1372 tb_122) rfl rfl rfl (by decide +kernel) ⟨Nat.le_of_ble_eq_true rfl, Nat.le_of_ble_eq_true rfl⟩) (PB.preS hK hE hS hA hP hD [] rfl (by decide)) rfl rfl hl.1 rfl (lv_room (Nat.le_of_ble_eq_true rfl)) dX12_word_6 ⟨Nat.le_of_ble_eq_true rfl, Nat.le_of_ble_eq_true rfl⟩) (fun r u H locs hw hP hD hS => ?_)
  obtain rfl : r = 636 := hw
  obtain ⟨hP, hD⟩ : PD G A [] H := ⟨hP, hD⟩
  refine lv_iload_n hx hb dX12_word_9 rfl (lv_at hl 2 rfl) ?_
  refine kc_l (W1 := []) (wr := []) [] [] rfl rfl (by decide) (by decide) hP hD hS hA (va_runS (As := [.long 636, .int 114]) (rest := []) ⟨hx, hb, hml, hown, hT⟩ (zcX12_appends_25 l G cy ev _ ) (va_cwS 2 hT (good_S tb_1373 tb_1371 tb_1372 tb_122) rfl rfl rfl (by decide +kernel) ⟨Nat.le_of_ble_eq_true rfl, Nat.le_of_ble_eq_true rfl⟩) (PB.preS hK hE hS hA hP hD [] rfl (by decide)) rfl rfl hl.1 rfl (lv_room (Nat.le_of_ble_eq_true rfl)) dX12_word_10 ⟨Nat.le_of_ble_eq_true rfl, Nat.le_of_ble_eq_true rfl⟩) (fun r u H locs hw hP hD hS => ?_)
  obtain rfl : r = 17190 := hw
  obtain ⟨hP, hD⟩ : PD G A [] H := ⟨hP, hD⟩
  refine lv_iload_n hx hb dX12_word_13 rfl (lv_at hl 3 rfl) ?_
  refine kc_l (W1 := []) (wr := []) [] [] rfl rfl (by decide) (by decide) hP hD hS hA (va_runS (As := [.long 17190, .int 100]) (rest := []) ⟨hx, hb, hml, hown, hT⟩ (zcX12_appends_26 l G cy ev _ ) (va_cwS 2 hT (good_S tb_1373 tb_1371 tb_1372 tb_122) rfl rfl rfl (by decide +kernel) ⟨Nat.le_of_ble_eq_true rfl, Nat.le_of_ble_eq_true rfl⟩) (PB.preS hK hE hS hA hP hD [] rfl (by decide)) rfl rfl hl.1 rfl (lv_room (Nat.le_of_ble_eq_true rfl)) dX12_word_14 ⟨Nat.le_of_ble_eq_true rfl, Nat.le_of_ble_eq_true rfl⟩) (fun r u H locs hw hP hD hS => ?_)
  obtain rfl : r = 464134 := hw
  obtain ⟨hP, hD⟩ : PD G A [] H := ⟨hP, hD⟩
  refine lv_iload hx hb dX12_word_17 (lv_at hl 4 rfl) ?_
  refine kc_l (W1 := []) (wr := []) [] [] rfl rfl (by decide) (by decide) hP hD hS hA (va_runS (As := [.long 464134, .int 0]) (rest := []) ⟨hx, hb, hml, hown, hT⟩ (zcX12_appends_27 l G cy ev _ ) (va_cwS 2 hT (good_S tb_1373 tb_1371 tb_1372 tb_122) rfl rfl rfl (by decide +kernel) ⟨Nat.le_of_ble_eq_true rfl, Nat.le_of_ble_eq_true rfl⟩) (PB.preS hK hE hS hA hP hD [] rfl (by decide)) rfl rfl hl.1 rfl (lv_room (Nat.le_of_ble_eq_true rfl)) dX12_word_19 ⟨Nat.le_of_ble_eq_true rfl, Nat.le_of_ble_eq_true rfl⟩) (fun r u H locs hw hP hD hS => ?_)
  obtain rfl : r = 464134 := hw
  obtain ⟨hP, hD⟩ : PD G A [] H := ⟨hP, hD⟩
  refine lv_iload hx hb dX12_word_22 (lv_at hl 5 rfl) ?_
  refine kc_l (W1 := []) (wr := []) [] [] rfl rfl (by decide) (by decide) hP hD hS hA (va_runS (As := [.long 464134, .int 0]) (rest := []) ⟨hx, hb, hml, hown, hT⟩ (zcX12_appends_27 l G cy ev _ ) (va_cwS 2 hT (good_S tb_1373 tb_1371 tb_1372 tb_122) rfl rfl rfl (by decide +kernel) ⟨Nat.le_of_ble_eq_true rfl, Nat.le_of_ble_eq_true rfl⟩) (PB.preS hK hE hS hA hP hD [] rfl (by decide)) rfl rfl hl.1 rfl (lv_room (Nat.le_of_ble_eq_true rfl)) dX12_word_24 ⟨Nat.le_of_ble_eq_true rfl, Nat.le_of_ble_eq_true rfl⟩) (fun r u H locs hw hP hD hS => ?_)
  obtain rfl : r = 464134 := hw
  obtain ⟨hP, hD⟩ : PD G A [] H := ⟨hP, hD⟩
  refine lv_iload hx hb dX12_word_27 (lv_at hl 6 rfl) ?_
  refine kc_l (W1 := []) (wr := []) [] [] rfl rfl (by decide) (by decide) hP hD hS hA (va_runS (As := [.long 464134, .int 0]) (rest := []) ⟨hx, hb, hml, hown, hT⟩ (zcX12_appends_27 l G cy ev _ ) (va_cwS 2 hT (good_S tb_1373 tb_1371 tb_1372 tb_122) rfl rfl rfl (by decide +kernel) ⟨Nat.le_of_ble_eq_true rfl, Nat.le_of_ble_eq_true rfl⟩) (PB.preS hK hE hS hA hP hD [] rfl (by decide)) rfl rfl hl.1 rfl (lv_room (Nat.le_of_ble_eq_true rfl)) dX12_word_29 ⟨Nat.le_of_ble_eq_true rfl, Nat.le_of_ble_eq_true rfl⟩) (fun r u H locs hw hP hD hS => ?_)
  obtain rfl : r = 464134 := hw
  obtain ⟨hP, hD⟩ : PD G A [] H := ⟨hP, hD⟩
  exact kr_l hx hb hr hlocks hP hD hS (u := (() : Unit)) rfl [] rfl (by decide) (Nat.le_of_ble_eq_true rfl) (Nat.le_of_ble_eq_true rfl) dX12_word_32

set_option maxRecDepth 100000 in
set_option maxHeartbeats 4000000 in
theorem zcX12_appends_28 (l : Launch) (G : va_G) (cy : Nat → ClassId) (ev : Ev) (sz : Nat)   : Met l yX12_appends (WS yX12_appends cX12_appends 3 (some .long)) { frames := 0, cells := 0, slots := 0, locals := 0 } (PB [.long 0, .int 115] sz G cy ev []) (QBl (S := Unit) (fun (r : Int64) (u : Unit) => r = 19) G (fun u => []) (va_A [] sz)) 0 0 (va_A [] sz) := by
  refine met_of (y := yX12_appends) (L := 3) (av := [.long 0, .int 115]) (Qc := fun A => QBl (S := Unit) (fun (r : Int64) (u : Unit) => r = 19) G (fun u => []) A) (by decide) (Nat.le_of_ble_eq_true rfl) ?_
  intro p e s m below meth c hx hb hr hml hown hT hlocks hin hK A hA hE hP hD hS ls hl
  have hown : s.vm.findClass "LieClockModel" = some m.cls := hown
  have hl : lv_has ls 3 [(0, .long 0), (2, .int 115)] := hl
  refine lv_iload_n hx hb dX12_appends_0 rfl (lv_at hl 1 rfl) ?_
  refine lv_if_ne (tgt := 8) hx hb dX12_appends_1 (by decide) (fun _ => ?_) (fun c => absurd c (by decide))
  refine lv_ldc2 (v := 27) hx hb hown (hT _ tb_1374) dX12_appends_8 ?_
  refine lv_lload_n hx hb dX12_appends_11 rfl (lv_at hl 0 rfl) ?_
  refine kx_lmul (v := 0) hx hb dX12_appends_12 (by decide) ?_
  refine lv_iload_n hx hb dX12_appends_13 rfl (lv_at hl 1 rfl) ?_
  refine lv_bipush (v := 97) hx hb dX12_appends_14 (by decide) ?_
  refine kx_isub (v := 18) hx hb dX12_appends_16 (by decide) ?_
  refine lv_iconst (v := 1) hx hb dX12_appends_17 (by decide) ?_
  refine kx_iadd (v := 19) hx hb dX12_appends_18 (by decide) ?_
  refine lv_i2l (v := 19) hx hb dX12_appends_19 (by decide) ?_
  refine kx_ladd (v := 19) hx hb dX12_appends_20 (by decide) ?_
  exact kr_l hx hb hr hlocks hP hD hS (u := (() : Unit)) rfl [] rfl (by decide) (Nat.le_of_ble_eq_true rfl) (Nat.le_of_ble_eq_true rfl) dX12_appends_21

set_option maxRecDepth 100000 in
set_option maxHeartbeats 4000000 in
theorem zcX12_appends_29 (l : Launch) (G : va_G) (cy : Nat → ClassId) (ev : Ev) (sz : Nat)   : Met l yX12_appends (WS yX12_appends cX12_appends 3 (some .long)) { frames := 0, cells := 0, slots := 0, locals := 0 } (PB [.long 19, .int 101] sz G cy ev []) (QBl (S := Unit) (fun (r : Int64) (u : Unit) => r = 518) G (fun u => []) (va_A [] sz)) 0 0 (va_A [] sz) := by
  refine met_of (y := yX12_appends) (L := 3) (av := [.long 19, .int 101]) (Qc := fun A => QBl (S := Unit) (fun (r : Int64) (u : Unit) => r = 518) G (fun u => []) A) (by decide) (Nat.le_of_ble_eq_true rfl) ?_
  intro p e s m below meth c hx hb hr hml hown hT hlocks hin hK A hA hE hP hD hS ls hl
  have hown : s.vm.findClass "LieClockModel" = some m.cls := hown
  have hl : lv_has ls 3 [(0, .long 19), (2, .int 101)] := hl
  refine lv_iload_n hx hb dX12_appends_0 rfl (lv_at hl 1 rfl) ?_
  refine lv_if_ne (tgt := 8) hx hb dX12_appends_1 (by decide) (fun _ => ?_) (fun c => absurd c (by decide))
  refine lv_ldc2 (v := 27) hx hb hown (hT _ tb_1374) dX12_appends_8 ?_
  refine lv_lload_n hx hb dX12_appends_11 rfl (lv_at hl 0 rfl) ?_
  refine kx_lmul (v := 513) hx hb dX12_appends_12 (by decide) ?_
  refine lv_iload_n hx hb dX12_appends_13 rfl (lv_at hl 1 rfl) ?_
  refine lv_bipush (v := 97) hx hb dX12_appends_14 (by decide) ?_
  refine kx_isub (v := 4) hx hb dX12_appends_16 (by decide) ?_
  refine lv_iconst (v := 1) hx hb dX12_appends_17 (by decide) ?_
  refine kx_iadd (v := 5) hx hb dX12_appends_18 (by decide) ?_
  refine lv_i2l (v := 5) hx hb dX12_appends_19 (by decide) ?_
  refine kx_ladd (v := 518) hx hb dX12_appends_20 (by decide) ?_
  exact kr_l hx hb hr hlocks hP hD hS (u := (() : Unit)) rfl [] rfl (by decide) (Nat.le_of_ble_eq_true rfl) (Nat.le_of_ble_eq_true rfl) dX12_appends_21

set_option maxRecDepth 100000 in
set_option maxHeartbeats 4000000 in
theorem zcX12_appends_30 (l : Launch) (G : va_G) (cy : Nat → ClassId) (ev : Ev) (sz : Nat)   : Met l yX12_appends (WS yX12_appends cX12_appends 3 (some .long)) { frames := 0, cells := 0, slots := 0, locals := 0 } (PB [.long 518, .int 108] sz G cy ev []) (QBl (S := Unit) (fun (r : Int64) (u : Unit) => r = 13998) G (fun u => []) (va_A [] sz)) 0 0 (va_A [] sz) := by
  refine met_of (y := yX12_appends) (L := 3) (av := [.long 518, .int 108]) (Qc := fun A => QBl (S := Unit) (fun (r : Int64) (u : Unit) => r = 13998) G (fun u => []) A) (by decide) (Nat.le_of_ble_eq_true rfl) ?_
  intro p e s m below meth c hx hb hr hml hown hT hlocks hin hK A hA hE hP hD hS ls hl
  have hown : s.vm.findClass "LieClockModel" = some m.cls := hown
  have hl : lv_has ls 3 [(0, .long 518), (2, .int 108)] := hl
  refine lv_iload_n hx hb dX12_appends_0 rfl (lv_at hl 1 rfl) ?_
  refine lv_if_ne (tgt := 8) hx hb dX12_appends_1 (by decide) (fun _ => ?_) (fun c => absurd c (by decide))
  refine lv_ldc2 (v := 27) hx hb hown (hT _ tb_1374) dX12_appends_8 ?_
  refine lv_lload_n hx hb dX12_appends_11 rfl (lv_at hl 0 rfl) ?_
  refine kx_lmul (v := 13986) hx hb dX12_appends_12 (by decide) ?_
  refine lv_iload_n hx hb dX12_appends_13 rfl (lv_at hl 1 rfl) ?_
  refine lv_bipush (v := 97) hx hb dX12_appends_14 (by decide) ?_
  refine kx_isub (v := 11) hx hb dX12_appends_16 (by decide) ?_
  refine lv_iconst (v := 1) hx hb dX12_appends_17 (by decide) ?_
  refine kx_iadd (v := 12) hx hb dX12_appends_18 (by decide) ?_
  refine lv_i2l (v := 12) hx hb dX12_appends_19 (by decide) ?_
  refine kx_ladd (v := 13998) hx hb dX12_appends_20 (by decide) ?_
  exact kr_l hx hb hr hlocks hP hD hS (u := (() : Unit)) rfl [] rfl (by decide) (Nat.le_of_ble_eq_true rfl) (Nat.le_of_ble_eq_true rfl) dX12_appends_21

set_option maxRecDepth 100000 in
set_option maxHeartbeats 4000000 in
theorem zcX12_appends_31 (l : Launch) (G : va_G) (cy : Nat → ClassId) (ev : Ev) (sz : Nat)   : Met l yX12_appends (WS yX12_appends cX12_appends 3 (some .long)) { frames := 0, cells := 0, slots := 0, locals := 0 } (PB [.long 13998, .int 102] sz G cy ev []) (QBl (S := Unit) (fun (r : Int64) (u : Unit) => r = 377952) G (fun u => []) (va_A [] sz)) 0 0 (va_A [] sz) := by
  refine met_of (y := yX12_appends) (L := 3) (av := [.long 13998, .int 102]) (Qc := fun A => QBl (S := Unit) (fun (r : Int64) (u : Unit) => r = 377952) G (fun u => []) A) (by decide) (Nat.le_of_ble_eq_true rfl) ?_
  intro p e s m below meth c hx hb hr hml hown hT hlocks hin hK A hA hE hP hD hS ls hl
  have hown : s.vm.findClass "LieClockModel" = some m.cls := hown
  have hl : lv_has ls 3 [(0, .long 13998), (2, .int 102)] := hl
  refine lv_iload_n hx hb dX12_appends_0 rfl (lv_at hl 1 rfl) ?_
  refine lv_if_ne (tgt := 8) hx hb dX12_appends_1 (by decide) (fun _ => ?_) (fun c => absurd c (by decide))
  refine lv_ldc2 (v := 27) hx hb hown (hT _ tb_1374) dX12_appends_8 ?_
  refine lv_lload_n hx hb dX12_appends_11 rfl (lv_at hl 0 rfl) ?_
  refine kx_lmul (v := 377946) hx hb dX12_appends_12 (by decide) ?_
  refine lv_iload_n hx hb dX12_appends_13 rfl (lv_at hl 1 rfl) ?_
  refine lv_bipush (v := 97) hx hb dX12_appends_14 (by decide) ?_
  refine kx_isub (v := 5) hx hb dX12_appends_16 (by decide) ?_
  refine lv_iconst (v := 1) hx hb dX12_appends_17 (by decide) ?_
  refine kx_iadd (v := 6) hx hb dX12_appends_18 (by decide) ?_
  refine lv_i2l (v := 6) hx hb dX12_appends_19 (by decide) ?_
  refine kx_ladd (v := 377952) hx hb dX12_appends_20 (by decide) ?_
  exact kr_l hx hb hr hlocks hP hD hS (u := (() : Unit)) rfl [] rfl (by decide) (Nat.le_of_ble_eq_true rfl) (Nat.le_of_ble_eq_true rfl) dX12_appends_21

set_option maxRecDepth 100000 in
set_option maxHeartbeats 4000000 in
theorem zcX12_appends_32 (l : Launch) (G : va_G) (cy : Nat → ClassId) (ev : Ev) (sz : Nat)   : Met l yX12_appends (WS yX12_appends cX12_appends 3 (some .long)) { frames := 0, cells := 0, slots := 0, locals := 0 } (PB [.long 377952, .int 0] sz G cy ev []) (QBl (S := Unit) (fun (r : Int64) (u : Unit) => r = 377952) G (fun u => []) (va_A [] sz)) 0 0 (va_A [] sz) := by
  refine met_of (y := yX12_appends) (L := 3) (av := [.long 377952, .int 0]) (Qc := fun A => QBl (S := Unit) (fun (r : Int64) (u : Unit) => r = 377952) G (fun u => []) A) (by decide) (Nat.le_of_ble_eq_true rfl) ?_
  intro p e s m below meth c hx hb hr hml hown hT hlocks hin hK A hA hE hP hD hS ls hl
  have hown : s.vm.findClass "LieClockModel" = some m.cls := hown
  have hl : lv_has ls 3 [(0, .long 377952), (2, .int 0)] := hl
  refine lv_iload_n hx hb dX12_appends_0 rfl (lv_at hl 1 rfl) ?_
  refine lv_if_ne (tgt := 8) hx hb dX12_appends_1 (by decide) (fun c => absurd (by decide) c) (fun _ => ?_)
  refine lv_lload_n hx hb dX12_appends_4 rfl (lv_at hl 0 rfl) ?_
  refine lv_goto (tgt := 21) hx hb dX12_appends_5 (by decide) ?_
  exact kr_l hx hb hr hlocks hP hD hS (u := (() : Unit)) rfl [] rfl (by decide) (Nat.le_of_ble_eq_true rfl) (Nat.le_of_ble_eq_true rfl) dX12_appends_21

set_option maxRecDepth 100000 in
set_option maxHeartbeats 4000000 in
theorem zcX12_word_6 (l : Launch) (G : va_G) (cy : Nat → ClassId) (ev : Ev) (sz : Nat)   : Met l yX12_word (WS yX12_word cX12_word 7 (some .long)) { frames := 1, cells := 0, slots := 0, locals := 22 } (PB [.int 115, .int 101, .int 108, .int 102, .int 0, .int 0, .int 0] sz G cy ev []) (QBl (S := Unit) (fun (r : Int64) (u : Unit) => r = 377952) G (fun u => []) (va_A [] sz)) 0 0 (va_A [] sz) := by
  refine met_of (y := yX12_word) (L := 7) (av := [.int 115, .int 101, .int 108, .int 102, .int 0, .int 0, .int 0]) (Qc := fun A => QBl (S := Unit) (fun (r : Int64) (u : Unit) => r = 377952) G (fun u => []) A) (by decide) (Nat.le_of_ble_eq_true rfl) ?_
  intro p e s m below meth c hx hb hr hml hown hT hlocks hin hK A hA hE hP hD hS ls hl
  have hown : s.vm.findClass "LieClockModel" = some m.cls := hown
  have hl : lv_has ls 7 [(0, .int 115), (1, .int 101), (2, .int 108), (3, .int 102), (4, .int 0), (5, .int 0), (6, .int 0)] := hl
  refine lv_lconst (v := 0) hx hb dX12_word_0 (by decide) ?_
  refine lv_iload_n hx hb dX12_word_1 rfl (lv_at hl 0 rfl) ?_
  refine kc_l (W1 := []) (wr := []) [] [] rfl rfl (by decide) (by decide) hP hD hS hA (va_runS (As := [.long 0, .int 115]) (rest := []) ⟨hx, hb, hml, hown, hT⟩ (zcX12_appends_28 l G cy ev _ ) (va_cwS 2 hT (good_S tb_1373 tb_1371 tb_1372 tb_122) rfl rfl rfl (by decide +kernel) ⟨Nat.le_of_ble_eq_true rfl, Nat.le_of_ble_eq_true rfl⟩) (PB.preS hK hE hS hA hP hD [] rfl (by decide)) rfl rfl hl.1 rfl (lv_room (Nat.le_of_ble_eq_true rfl)) dX12_word_2 ⟨Nat.le_of_ble_eq_true rfl, Nat.le_of_ble_eq_true rfl⟩) (fun r u H locs hw hP hD hS => ?_)
  obtain rfl : r = 19 := hw
  obtain ⟨hP, hD⟩ : PD G A [] H := ⟨hP, hD⟩
  refine lv_iload_n hx hb dX12_word_5 rfl (lv_at hl 1 rfl) ?_
  refine kc_l (W1 := []) (wr := []) [] [] rfl rfl (by decide) (by decide) hP hD hS hA (va_runS (As := [.long 19, .int 101]) (rest := []) ⟨hx, hb, hml, hown, hT⟩ (zcX12_appends_29 l G cy ev _ ) (va_cwS 2 hT (good_S tb_1373 tb_1371 tb_1372 tb_122) rfl rfl rfl (by decide +kernel) ⟨Nat.le_of_ble_eq_true rfl, Nat.le_of_ble_eq_true rfl⟩) (PB.preS hK hE hS hA hP hD [] rfl (by decide)) rfl rfl hl.1 rfl (lv_room (Nat.le_of_ble_eq_true rfl)) dX12_word_6 ⟨Nat.le_of_ble_eq_true rfl, Nat.le_of_ble_eq_true rfl⟩) (fun r u H locs hw hP hD hS => ?_)
  obtain rfl : r = 518 := hw
  obtain ⟨hP, hD⟩ : PD G A [] H := ⟨hP, hD⟩
  refine lv_iload_n hx hb dX12_word_9 rfl (lv_at hl 2 rfl) ?_
  refine kc_l (W1 := []) (wr := []) [] [] rfl rfl (by decide) (by decide) hP hD hS hA (va_runS (As := [.long 518, .int 108]) (rest := []) ⟨hx, hb, hml, hown, hT⟩ (zcX12_appends_30 l G cy ev _ ) (va_cwS 2 hT (good_S tb_1373 tb_1371 tb_1372 tb_122) rfl rfl rfl (by decide +kernel) ⟨Nat.le_of_ble_eq_true rfl, Nat.le_of_ble_eq_true rfl⟩) (PB.preS hK hE hS hA hP hD [] rfl (by decide)) rfl rfl hl.1 rfl (lv_room (Nat.le_of_ble_eq_true rfl)) dX12_word_10 ⟨Nat.le_of_ble_eq_true rfl, Nat.le_of_ble_eq_true rfl⟩) (fun r u H locs hw hP hD hS => ?_)
  obtain rfl : r = 13998 := hw
  obtain ⟨hP, hD⟩ : PD G A [] H := ⟨hP, hD⟩
  refine lv_iload_n hx hb dX12_word_13 rfl (lv_at hl 3 rfl) ?_
  refine kc_l (W1 := []) (wr := []) [] [] rfl rfl (by decide) (by decide) hP hD hS hA (va_runS (As := [.long 13998, .int 102]) (rest := []) ⟨hx, hb, hml, hown, hT⟩ (zcX12_appends_31 l G cy ev _ ) (va_cwS 2 hT (good_S tb_1373 tb_1371 tb_1372 tb_122) rfl rfl rfl (by decide +kernel) ⟨Nat.le_of_ble_eq_true rfl, Nat.le_of_ble_eq_true rfl⟩) (PB.preS hK hE hS hA hP hD [] rfl (by decide)) rfl rfl hl.1 rfl (lv_room (Nat.le_of_ble_eq_true rfl)) dX12_word_14 ⟨Nat.le_of_ble_eq_true rfl, Nat.le_of_ble_eq_true rfl⟩) (fun r u H locs hw hP hD hS => ?_)
  obtain rfl : r = 377952 := hw
  obtain ⟨hP, hD⟩ : PD G A [] H := ⟨hP, hD⟩
  refine lv_iload hx hb dX12_word_17 (lv_at hl 4 rfl) ?_
  refine kc_l (W1 := []) (wr := []) [] [] rfl rfl (by decide) (by decide) hP hD hS hA (va_runS (As := [.long 377952, .int 0]) (rest := []) ⟨hx, hb, hml, hown, hT⟩ (zcX12_appends_32 l G cy ev _ ) (va_cwS 2 hT (good_S tb_1373 tb_1371 tb_1372 tb_122) rfl rfl rfl (by decide +kernel) ⟨Nat.le_of_ble_eq_true rfl, Nat.le_of_ble_eq_true rfl⟩) (PB.preS hK hE hS hA hP hD [] rfl (by decide)) rfl rfl hl.1 rfl (lv_room (Nat.le_of_ble_eq_true rfl)) dX12_word_19 ⟨Nat.le_of_ble_eq_true rfl, Nat.le_of_ble_eq_true rfl⟩) (fun r u H locs hw hP hD hS => ?_)
  obtain rfl : r = 377952 := hw
  obtain ⟨hP, hD⟩ : PD G A [] H := ⟨hP, hD⟩
  refine lv_iload hx hb dX12_word_22 (lv_at hl 5 rfl) ?_
  refine kc_l (W1 := []) (wr := []) [] [] rfl rfl (by decide) (by decide) hP hD hS hA (va_runS (As := [.long 377952, .int 0]) (rest := []) ⟨hx, hb, hml, hown, hT⟩ (zcX12_appends_32 l G cy ev _ ) (va_cwS 2 hT (good_S tb_1373 tb_1371 tb_1372 tb_122) rfl rfl rfl (by decide +kernel) ⟨Nat.le_of_ble_eq_true rfl, Nat.le_of_ble_eq_true rfl⟩) (PB.preS hK hE hS hA hP hD [] rfl (by decide)) rfl rfl hl.1 rfl (lv_room (Nat.le_of_ble_eq_true rfl)) dX12_word_24 ⟨Nat.le_of_ble_eq_true rfl, Nat.le_of_ble_eq_true rfl⟩) (fun r u H locs hw hP hD hS => ?_)
  obtain rfl : r = 377952 := hw
  obtain ⟨hP, hD⟩ : PD G A [] H := ⟨hP, hD⟩
  refine lv_iload hx hb dX12_word_27 (lv_at hl 6 rfl) ?_
  refine kc_l (W1 := []) (wr := []) [] [] rfl rfl (by decide) (by decide) hP hD hS hA (va_runS (As := [.long 377952, .int 0]) (rest := []) ⟨hx, hb, hml, hown, hT⟩ (zcX12_appends_32 l G cy ev _ ) (va_cwS 2 hT (good_S tb_1373 tb_1371 tb_1372 tb_122) rfl rfl rfl (by decide +kernel) ⟨Nat.le_of_ble_eq_true rfl, Nat.le_of_ble_eq_true rfl⟩) (PB.preS hK hE hS hA hP hD [] rfl (by decide)) rfl rfl hl.1 rfl (lv_room (Nat.le_of_ble_eq_true rfl)) dX12_word_29 ⟨Nat.le_of_ble_eq_true rfl, Nat.le_of_ble_eq_true rfl⟩) (fun r u H locs hw hP hD hS => ?_)
  obtain rfl : r = 377952 := hw
  obtain ⟨hP, hD⟩ : PD G A [] H := ⟨hP, hD⟩
  exact kr_l hx hb hr hlocks hP hD hS (u := (() : Unit)) rfl [] rfl (by decide) (Nat.le_of_ble_eq_true rfl) (Nat.le_of_ble_eq_true rfl) dX12_word_32

set_option maxRecDepth 100000 in
set_option maxHeartbeats 4000000 in
theorem zcX12_appends_33 (l : Launch) (G : va_G) (cy : Nat → ClassId) (ev : Ev) (sz : Nat)   : Met l yX12_appends (WS yX12_appends cX12_appends 3 (some .long)) { frames := 0, cells := 0, slots := 0, locals := 0 } (PB [.long 0, .int 99] sz G cy ev []) (QBl (S := Unit) (fun (r : Int64) (u : Unit) => r = 3) G (fun u => []) (va_A [] sz)) 0 0 (va_A [] sz) := by
  refine met_of (y := yX12_appends) (L := 3) (av := [.long 0, .int 99]) (Qc := fun A => QBl (S := Unit) (fun (r : Int64) (u : Unit) => r = 3) G (fun u => []) A) (by decide) (Nat.le_of_ble_eq_true rfl) ?_
  intro p e s m below meth c hx hb hr hml hown hT hlocks hin hK A hA hE hP hD hS ls hl
  have hown : s.vm.findClass "LieClockModel" = some m.cls := hown
  have hl : lv_has ls 3 [(0, .long 0), (2, .int 99)] := hl
  refine lv_iload_n hx hb dX12_appends_0 rfl (lv_at hl 1 rfl) ?_
  refine lv_if_ne (tgt := 8) hx hb dX12_appends_1 (by decide) (fun _ => ?_) (fun c => absurd c (by decide))
  refine lv_ldc2 (v := 27) hx hb hown (hT _ tb_1374) dX12_appends_8 ?_
  refine lv_lload_n hx hb dX12_appends_11 rfl (lv_at hl 0 rfl) ?_
  refine kx_lmul (v := 0) hx hb dX12_appends_12 (by decide) ?_
  refine lv_iload_n hx hb dX12_appends_13 rfl (lv_at hl 1 rfl) ?_
  refine lv_bipush (v := 97) hx hb dX12_appends_14 (by decide) ?_
  refine kx_isub (v := 2) hx hb dX12_appends_16 (by decide) ?_
  refine lv_iconst (v := 1) hx hb dX12_appends_17 (by decide) ?_
  refine kx_iadd (v := 3) hx hb dX12_appends_18 (by decide) ?_
  refine lv_i2l (v := 3) hx hb dX12_appends_19 (by decide) ?_
  refine kx_ladd (v := 3) hx hb dX12_appends_20 (by decide) ?_
  exact kr_l hx hb hr hlocks hP hD hS (u := (() : Unit)) rfl [] rfl (by decide) (Nat.le_of_ble_eq_true rfl) (Nat.le_of_ble_eq_true rfl) dX12_appends_21

set_option maxRecDepth 100000 in
set_option maxHeartbeats 4000000 in
theorem zcX12_appends_34 (l : Launch) (G : va_G) (cy : Nat → ClassId) (ev : Ev) (sz : Nat)   : Met l yX12_appends (WS yX12_appends cX12_appends 3 (some .long)) { frames := 0, cells := 0, slots := 0, locals := 0 } (PB [.long 3, .int 97] sz G cy ev []) (QBl (S := Unit) (fun (r : Int64) (u : Unit) => r = 82) G (fun u => []) (va_A [] sz)) 0 0 (va_A [] sz) := by
  refine met_of (y := yX12_appends) (L := 3) (av := [.long 3, .int 97]) (Qc := fun A => QBl (S := Unit) (fun (r : Int64) (u : Unit) => r = 82) G (fun u => []) A) (by decide) (Nat.le_of_ble_eq_true rfl) ?_
  intro p e s m below meth c hx hb hr hml hown hT hlocks hin hK A hA hE hP hD hS ls hl
  have hown : s.vm.findClass "LieClockModel" = some m.cls := hown
  have hl : lv_has ls 3 [(0, .long 3), (2, .int 97)] := hl
  refine lv_iload_n hx hb dX12_appends_0 rfl (lv_at hl 1 rfl) ?_
  refine lv_if_ne (tgt := 8) hx hb dX12_appends_1 (by decide) (fun _ => ?_) (fun c => absurd c (by decide))
  refine lv_ldc2 (v := 27) hx hb hown (hT _ tb_1374) dX12_appends_8 ?_
  refine lv_lload_n hx hb dX12_appends_11 rfl (lv_at hl 0 rfl) ?_
  refine kx_lmul (v := 81) hx hb dX12_appends_12 (by decide) ?_
  refine lv_iload_n hx hb dX12_appends_13 rfl (lv_at hl 1 rfl) ?_
  refine lv_bipush (v := 97) hx hb dX12_appends_14 (by decide) ?_
  refine kx_isub (v := 0) hx hb dX12_appends_16 (by decide) ?_
  refine lv_iconst (v := 1) hx hb dX12_appends_17 (by decide) ?_
  refine kx_iadd (v := 1) hx hb dX12_appends_18 (by decide) ?_
  refine lv_i2l (v := 1) hx hb dX12_appends_19 (by decide) ?_
  refine kx_ladd (v := 82) hx hb dX12_appends_20 (by decide) ?_
  exact kr_l hx hb hr hlocks hP hD hS (u := (() : Unit)) rfl [] rfl (by decide) (Nat.le_of_ble_eq_true rfl) (Nat.le_of_ble_eq_true rfl) dX12_appends_21

set_option maxRecDepth 100000 in
set_option maxHeartbeats 4000000 in
theorem zcX12_appends_35 (l : Launch) (G : va_G) (cy : Nat → ClassId) (ev : Ev) (sz : Nat)   : Met l yX12_appends (WS yX12_appends cX12_appends 3 (some .long)) { frames := 0, cells := 0, slots := 0, locals := 0 } (PB [.long 82, .int 115] sz G cy ev []) (QBl (S := Unit) (fun (r : Int64) (u : Unit) => r = 2233) G (fun u => []) (va_A [] sz)) 0 0 (va_A [] sz) := by
  refine met_of (y := yX12_appends) (L := 3) (av := [.long 82, .int 115]) (Qc := fun A => QBl (S := Unit) (fun (r : Int64) (u : Unit) => r = 2233) G (fun u => []) A) (by decide) (Nat.le_of_ble_eq_true rfl) ?_
  intro p e s m below meth c hx hb hr hml hown hT hlocks hin hK A hA hE hP hD hS ls hl
  have hown : s.vm.findClass "LieClockModel" = some m.cls := hown
  have hl : lv_has ls 3 [(0, .long 82), (2, .int 115)] := hl
  refine lv_iload_n hx hb dX12_appends_0 rfl (lv_at hl 1 rfl) ?_
  refine lv_if_ne (tgt := 8) hx hb dX12_appends_1 (by decide) (fun _ => ?_) (fun c => absurd c (by decide))
  refine lv_ldc2 (v := 27) hx hb hown (hT _ tb_1374) dX12_appends_8 ?_
  refine lv_lload_n hx hb dX12_appends_11 rfl (lv_at hl 0 rfl) ?_
  refine kx_lmul (v := 2214) hx hb dX12_appends_12 (by decide) ?_
  refine lv_iload_n hx hb dX12_appends_13 rfl (lv_at hl 1 rfl) ?_
  refine lv_bipush (v := 97) hx hb dX12_appends_14 (by decide) ?_
  refine kx_isub (v := 18) hx hb dX12_appends_16 (by decide) ?_
  refine lv_iconst (v := 1) hx hb dX12_appends_17 (by decide) ?_
  refine kx_iadd (v := 19) hx hb dX12_appends_18 (by decide) ?_
  refine lv_i2l (v := 19) hx hb dX12_appends_19 (by decide) ?_
  refine kx_ladd (v := 2233) hx hb dX12_appends_20 (by decide) ?_
  exact kr_l hx hb hr hlocks hP hD hS (u := (() : Unit)) rfl [] rfl (by decide) (Nat.le_of_ble_eq_true rfl) (Nat.le_of_ble_eq_true rfl) dX12_appends_21

set_option maxRecDepth 100000 in
set_option maxHeartbeats 4000000 in
theorem zcX12_appends_36 (l : Launch) (G : va_G) (cy : Nat → ClassId) (ev : Ev) (sz : Nat)   : Met l yX12_appends (WS yX12_appends cX12_appends 3 (some .long)) { frames := 0, cells := 0, slots := 0, locals := 0 } (PB [.long 2233, .int 101] sz G cy ev []) (QBl (S := Unit) (fun (r : Int64) (u : Unit) => r = 60296) G (fun u => []) (va_A [] sz)) 0 0 (va_A [] sz) := by
  refine met_of (y := yX12_appends) (L := 3) (av := [.long 2233, .int 101]) (Qc := fun A => QBl (S := Unit) (fun (r : Int64) (u : Unit) => r = 60296) G (fun u => []) A) (by decide) (Nat.le_of_ble_eq_true rfl) ?_
  intro p e s m below meth c hx hb hr hml hown hT hlocks hin hK A hA hE hP hD hS ls hl
  have hown : s.vm.findClass "LieClockModel" = some m.cls := hown
  have hl : lv_has ls 3 [(0, .long 2233), (2, .int 101)] := hl
  refine lv_iload_n hx hb dX12_appends_0 rfl (lv_at hl 1 rfl) ?_
  refine lv_if_ne (tgt := 8) hx hb dX12_appends_1 (by decide) (fun _ => ?_) (fun c => absurd c (by decide))
  refine lv_ldc2 (v := 27) hx hb hown (hT _ tb_1374) dX12_appends_8 ?_
  refine lv_lload_n hx hb dX12_appends_11 rfl (lv_at hl 0 rfl) ?_
  refine kx_lmul (v := 60291) hx hb dX12_appends_12 (by decide) ?_
  refine lv_iload_n hx hb dX12_appends_13 rfl (lv_at hl 1 rfl) ?_
  refine lv_bipush (v := 97) hx hb dX12_appends_14 (by decide) ?_
  refine kx_isub (v := 4) hx hb dX12_appends_16 (by decide) ?_
  refine lv_iconst (v := 1) hx hb dX12_appends_17 (by decide) ?_
  refine kx_iadd (v := 5) hx hb dX12_appends_18 (by decide) ?_
  refine lv_i2l (v := 5) hx hb dX12_appends_19 (by decide) ?_
  refine kx_ladd (v := 60296) hx hb dX12_appends_20 (by decide) ?_
  exact kr_l hx hb hr hlocks hP hD hS (u := (() : Unit)) rfl [] rfl (by decide) (Nat.le_of_ble_eq_true rfl) (Nat.le_of_ble_eq_true rfl) dX12_appends_21

set_option maxRecDepth 100000 in
set_option maxHeartbeats 4000000 in
theorem zcX12_appends_37 (l : Launch) (G : va_G) (cy : Nat → ClassId) (ev : Ev) (sz : Nat)   : Met l yX12_appends (WS yX12_appends cX12_appends 3 (some .long)) { frames := 0, cells := 0, slots := 0, locals := 0 } (PB [.long 60296, .int 0] sz G cy ev []) (QBl (S := Unit) (fun (r : Int64) (u : Unit) => r = 60296) G (fun u => []) (va_A [] sz)) 0 0 (va_A [] sz) := by
  refine met_of (y := yX12_appends) (L := 3) (av := [.long 60296, .int 0]) (Qc := fun A => QBl (S := Unit) (fun (r : Int64) (u : Unit) => r = 60296) G (fun u => []) A) (by decide) (Nat.le_of_ble_eq_true rfl) ?_
  intro p e s m below meth c hx hb hr hml hown hT hlocks hin hK A hA hE hP hD hS ls hl
  have hown : s.vm.findClass "LieClockModel" = some m.cls := hown
  have hl : lv_has ls 3 [(0, .long 60296), (2, .int 0)] := hl
  refine lv_iload_n hx hb dX12_appends_0 rfl (lv_at hl 1 rfl) ?_
  refine lv_if_ne (tgt := 8) hx hb dX12_appends_1 (by decide) (fun c => absurd (by decide) c) (fun _ => ?_)
  refine lv_lload_n hx hb dX12_appends_4 rfl (lv_at hl 0 rfl) ?_
  refine lv_goto (tgt := 21) hx hb dX12_appends_5 (by decide) ?_
  exact kr_l hx hb hr hlocks hP hD hS (u := (() : Unit)) rfl [] rfl (by decide) (Nat.le_of_ble_eq_true rfl) (Nat.le_of_ble_eq_true rfl) dX12_appends_21

set_option maxRecDepth 100000 in
set_option maxHeartbeats 4000000 in
theorem zcX12_word_7 (l : Launch) (G : va_G) (cy : Nat → ClassId) (ev : Ev) (sz : Nat)   : Met l yX12_word (WS yX12_word cX12_word 7 (some .long)) { frames := 1, cells := 0, slots := 0, locals := 22 } (PB [.int 99, .int 97, .int 115, .int 101, .int 0, .int 0, .int 0] sz G cy ev []) (QBl (S := Unit) (fun (r : Int64) (u : Unit) => r = 60296) G (fun u => []) (va_A [] sz)) 0 0 (va_A [] sz) := by
  refine met_of (y := yX12_word) (L := 7) (av := [.int 99, .int 97, .int 115, .int 101, .int 0, .int 0, .int 0]) (Qc := fun A => QBl (S := Unit) (fun (r : Int64) (u : Unit) => r = 60296) G (fun u => []) A) (by decide) (Nat.le_of_ble_eq_true rfl) ?_
  intro p e s m below meth c hx hb hr hml hown hT hlocks hin hK A hA hE hP hD hS ls hl
  have hown : s.vm.findClass "LieClockModel" = some m.cls := hown
  have hl : lv_has ls 7 [(0, .int 99), (1, .int 97), (2, .int 115), (3, .int 101), (4, .int 0), (5, .int 0), (6, .int 0)] := hl
  refine lv_lconst (v := 0) hx hb dX12_word_0 (by decide) ?_
  refine lv_iload_n hx hb dX12_word_1 rfl (lv_at hl 0 rfl) ?_
  refine kc_l (W1 := []) (wr := []) [] [] rfl rfl (by decide) (by decide) hP hD hS hA (va_runS (As := [.long 0, .int 99]) (rest := []) ⟨hx, hb, hml, hown, hT⟩ (zcX12_appends_33 l G cy ev _ ) (va_cwS 2 hT (good_S tb_1373 tb_1371 tb_1372 tb_122) rfl rfl rfl (by decide +kernel) ⟨Nat.le_of_ble_eq_true rfl, Nat.le_of_ble_eq_true rfl⟩) (PB.preS hK hE hS hA hP hD [] rfl (by decide)) rfl rfl hl.1 rfl (lv_room (Nat.le_of_ble_eq_true rfl)) dX12_word_2 ⟨Nat.le_of_ble_eq_true rfl, Nat.le_of_ble_eq_true rfl⟩) (fun r u H locs hw hP hD hS => ?_)
  obtain rfl : r = 3 := hw
  obtain ⟨hP, hD⟩ : PD G A [] H := ⟨hP, hD⟩
  refine lv_iload_n hx hb dX12_word_5 rfl (lv_at hl 1 rfl) ?_
  refine kc_l (W1 := []) (wr := []) [] [] rfl rfl (by decide) (by decide) hP hD hS hA (va_runS (As := [.long 3, .int 97]) (rest := []) ⟨hx, hb, hml, hown, hT⟩ (zcX12_appends_34 l G cy ev _ ) (va_cwS 2 hT (good_S tb_1373 tb_1371 tb_1372 tb_122) rfl rfl rfl (by decide +kernel) ⟨Nat.le_of_ble_eq_true rfl, Nat.le_of_ble_eq_true rfl⟩) (PB.preS hK hE hS hA hP hD [] rfl (by decide)) rfl rfl hl.1 rfl (lv_room (Nat.le_of_ble_eq_true rfl)) dX12_word_6 ⟨Nat.le_of_ble_eq_true rfl, Nat.le_of_ble_eq_true rfl⟩) (fun r u H locs hw hP hD hS => ?_)
  obtain rfl : r = 82 := hw
  obtain ⟨hP, hD⟩ : PD G A [] H := ⟨hP, hD⟩
  refine lv_iload_n hx hb dX12_word_9 rfl (lv_at hl 2 rfl) ?_
  refine kc_l (W1 := []) (wr := []) [] [] rfl rfl (by decide) (by decide) hP hD hS hA (va_runS (As := [.long 82, .int 115]) (rest := []) ⟨hx, hb, hml, hown, hT⟩ (zcX12_appends_35 l G cy ev _ ) (va_cwS 2 hT (good_S tb_1373 tb_1371 tb_1372 tb_122) rfl rfl rfl (by decide +kernel) ⟨Nat.le_of_ble_eq_true rfl, Nat.le_of_ble_eq_true rfl⟩) (PB.preS hK hE hS hA hP hD [] rfl (by decide)) rfl rfl hl.1 rfl (lv_room (Nat.le_of_ble_eq_true rfl)) dX12_word_10 ⟨Nat.le_of_ble_eq_true rfl, Nat.le_of_ble_eq_true rfl⟩) (fun r u H locs hw hP hD hS => ?_)
  obtain rfl : r = 2233 := hw
  obtain ⟨hP, hD⟩ : PD G A [] H := ⟨hP, hD⟩
  refine lv_iload_n hx hb dX12_word_13 rfl (lv_at hl 3 rfl) ?_
  refine kc_l (W1 := []) (wr := []) [] [] rfl rfl (by decide) (by decide) hP hD hS hA (va_runS (As := [.long 2233, .int 101]) (rest := []) ⟨hx, hb, hml, hown, hT⟩ (zcX12_appends_36 l G cy ev _ ) (va_cwS 2 hT (good_S tb_1373 tb_1371 tb_1372 tb_122) rfl rfl rfl (by decide +kernel) ⟨Nat.le_of_ble_eq_true rfl, Nat.le_of_ble_eq_true rfl⟩) (PB.preS hK hE hS hA hP hD [] rfl (by decide)) rfl rfl hl.1 rfl (lv_room (Nat.le_of_ble_eq_true rfl)) dX12_word_14 ⟨Nat.le_of_ble_eq_true rfl, Nat.le_of_ble_eq_true rfl⟩) (fun r u H locs hw hP hD hS => ?_)
  obtain rfl : r = 60296 := hw
  obtain ⟨hP, hD⟩ : PD G A [] H := ⟨hP, hD⟩
  refine lv_iload hx hb dX12_word_17 (lv_at hl 4 rfl) ?_
  refine kc_l (W1 := []) (wr := []) [] [] rfl rfl (by decide) (by decide) hP hD hS hA (va_runS (As := [.long 60296, .int 0]) (rest := []) ⟨hx, hb, hml, hown, hT⟩ (zcX12_appends_37 l G cy ev _ ) (va_cwS 2 hT (good_S tb_1373 tb_1371 tb_1372 tb_122) rfl rfl rfl (by decide +kernel) ⟨Nat.le_of_ble_eq_true rfl, Nat.le_of_ble_eq_true rfl⟩) (PB.preS hK hE hS hA hP hD [] rfl (by decide)) rfl rfl hl.1 rfl (lv_room (Nat.le_of_ble_eq_true rfl)) dX12_word_19 ⟨Nat.le_of_ble_eq_true rfl, Nat.le_of_ble_eq_true rfl⟩) (fun r u H locs hw hP hD hS => ?_)
  obtain rfl : r = 60296 := hw
  obtain ⟨hP, hD⟩ : PD G A [] H := ⟨hP, hD⟩
  refine lv_iload hx hb dX12_word_22 (lv_at hl 5 rfl) ?_
  refine kc_l (W1 := []) (wr := []) [] [] rfl rfl (by decide) (by decide) hP hD hS hA (va_runS (As := [.long 60296, .int 0]) (rest := []) ⟨hx, hb, hml, hown, hT⟩ (zcX12_appends_37 l G cy ev _ ) (va_cwS 2 hT (good_S tb_1373 tb_1371 tb_1372 tb_122) rfl rfl rfl (by decide +kernel) ⟨Nat.le_of_ble_eq_true rfl, Nat.le_of_ble_eq_true rfl⟩) (PB.preS hK hE hS hA hP hD [] rfl (by decide)) rfl rfl hl.1 rfl (lv_room (Nat.le_of_ble_eq_true rfl)) dX12_word_24 ⟨Nat.le_of_ble_eq_true rfl, Nat.le_of_ble_eq_true rfl⟩) (fun r u H locs hw hP hD hS => ?_)
  obtain rfl : r = 60296 := hw
  obtain ⟨hP, hD⟩ : PD G A [] H := ⟨hP, hD⟩
  refine lv_iload hx hb dX12_word_27 (lv_at hl 6 rfl) ?_
  refine kc_l (W1 := []) (wr := []) [] [] rfl rfl (by decide) (by decide) hP hD hS hA (va_runS (As := [.long 60296, .int 0]) (rest := []) ⟨hx, hb, hml, hown, hT⟩ (zcX12_appends_37 l G cy ev _ ) (va_cwS 2 hT (good_S tb_1373 tb_1371 tb_1372 tb_122) rfl rfl rfl (by decide +kernel) ⟨Nat.le_of_ble_eq_true rfl, Nat.le_of_ble_eq_true rfl⟩) (PB.preS hK hE hS hA hP hD [] rfl (by decide)) rfl rfl hl.1 rfl (lv_room (Nat.le_of_ble_eq_true rfl)) dX12_word_29 ⟨Nat.le_of_ble_eq_true rfl, Nat.le_of_ble_eq_true rfl⟩) (fun r u H locs hw hP hD hS => ?_)
  obtain rfl : r = 60296 := hw
  obtain ⟨hP, hD⟩ : PD G A [] H := ⟨hP, hD⟩
  exact kr_l hx hb hr hlocks hP hD hS (u := (() : Unit)) rfl [] rfl (by decide) (Nat.le_of_ble_eq_true rfl) (Nat.le_of_ble_eq_true rfl) dX12_word_32

set_option maxRecDepth 100000 in
set_option maxHeartbeats 4000000 in
theorem zcX12_appends_38 (l : Launch) (G : va_G) (cy : Nat → ClassId) (ev : Ev) (sz : Nat)   : Met l yX12_appends (WS yX12_appends cX12_appends 3 (some .long)) { frames := 0, cells := 0, slots := 0, locals := 0 } (PB [.long 0, .int 98] sz G cy ev []) (QBl (S := Unit) (fun (r : Int64) (u : Unit) => r = 2) G (fun u => []) (va_A [] sz)) 0 0 (va_A [] sz) := by
  refine met_of (y := yX12_appends) (L := 3) (av := [.long 0, .int 98]) (Qc := fun A => QBl (S := Unit) (fun (r : Int64) (u : Unit) => r = 2) G (fun u => []) A) (by decide) (Nat.le_of_ble_eq_true rfl) ?_
  intro p e s m below meth c hx hb hr hml hown hT hlocks hin hK A hA hE hP hD hS ls hl
  have hown : s.vm.findClass "LieClockModel" = some m.cls := hown
  have hl : lv_has ls 3 [(0, .long 0), (2, .int 98)] := hl
  refine lv_iload_n hx hb dX12_appends_0 rfl (lv_at hl 1 rfl) ?_
  refine lv_if_ne (tgt := 8) hx hb dX12_appends_1 (by decide) (fun _ => ?_) (fun c => absurd c (by decide))
  refine lv_ldc2 (v := 27) hx hb hown (hT _ tb_1374) dX12_appends_8 ?_
  refine lv_lload_n hx hb dX12_appends_11 rfl (lv_at hl 0 rfl) ?_
  refine kx_lmul (v := 0) hx hb dX12_appends_12 (by decide) ?_
  refine lv_iload_n hx hb dX12_appends_13 rfl (lv_at hl 1 rfl) ?_
  refine lv_bipush (v := 97) hx hb dX12_appends_14 (by decide) ?_
  refine kx_isub (v := 1) hx hb dX12_appends_16 (by decide) ?_
  refine lv_iconst (v := 1) hx hb dX12_appends_17 (by decide) ?_
  refine kx_iadd (v := 2) hx hb dX12_appends_18 (by decide) ?_
  refine lv_i2l (v := 2) hx hb dX12_appends_19 (by decide) ?_
  refine kx_ladd (v := 2) hx hb dX12_appends_20 (by decide) ?_
  exact kr_l hx hb hr hlocks hP hD hS (u := (() : Unit)) rfl [] rfl (by decide) (Nat.le_of_ble_eq_true rfl) (Nat.le_of_ble_eq_true rfl) dX12_appends_21

set_option maxRecDepth 100000 in
set_option maxHeartbeats 4000000 in
theorem zcX12_appends_39 (l : Launch) (G : va_G) (cy : Nat → ClassId) (ev : Ev) (sz : Nat)   : Met l yX12_appends (WS yX12_appends cX12_appends 3 (some .long)) { frames := 0, cells := 0, slots := 0, locals := 0 } (PB [.long 2, .int 97] sz G cy ev []) (QBl (S := Unit) (fun (r : Int64) (u : Unit) => r = 55) G (fun u => []) (va_A [] sz)) 0 0 (va_A [] sz) := by
  refine met_of (y := yX12_appends) (L := 3) (av := [.long 2, .int 97]) (Qc := fun A => QBl (S := Unit) (fun (r : Int64) (u : Unit) => r = 55) G (fun u => []) A) (by decide) (Nat.le_of_ble_eq_true rfl) ?_
  intro p e s m below meth c hx hb hr hml hown hT hlocks hin hK A hA hE hP hD hS ls hl
  have hown : s.vm.findClass "LieClockModel" = some m.cls := hown
  have hl : lv_has ls 3 [(0, .long 2), (2, .int 97)] := hl
  refine lv_iload_n hx hb dX12_appends_0 rfl (lv_at hl 1 rfl) ?_
  refine lv_if_ne (tgt := 8) hx hb dX12_appends_1 (by decide) (fun _ => ?_) (fun c => absurd c (by decide))
  refine lv_ldc2 (v := 27) hx hb hown (hT _ tb_1374) dX12_appends_8 ?_
  refine lv_lload_n hx hb dX12_appends_11 rfl (lv_at hl 0 rfl) ?_
  refine kx_lmul (v := 54) hx hb dX12_appends_12 (by decide) ?_
  refine lv_iload_n hx hb dX12_appends_13 rfl (lv_at hl 1 rfl) ?_
  refine lv_bipush (v := 97) hx hb dX12_appends_14 (by decide) ?_
  refine kx_isub (v := 0) hx hb dX12_appends_16 (by decide) ?_
  refine lv_iconst (v := 1) hx hb dX12_appends_17 (by decide) ?_
  refine kx_iadd (v := 1) hx hb dX12_appends_18 (by decide) ?_
  refine lv_i2l (v := 1) hx hb dX12_appends_19 (by decide) ?_
  refine kx_ladd (v := 55) hx hb dX12_appends_20 (by decide) ?_
  exact kr_l hx hb hr hlocks hP hD hS (u := (() : Unit)) rfl [] rfl (by decide) (Nat.le_of_ble_eq_true rfl) (Nat.le_of_ble_eq_true rfl) dX12_appends_21

set_option maxRecDepth 100000 in
set_option maxHeartbeats 4000000 in
theorem zcX12_appends_40 (l : Launch) (G : va_G) (cy : Nat → ClassId) (ev : Ev) (sz : Nat)   : Met l yX12_appends (WS yX12_appends cX12_appends 3 (some .long)) { frames := 0, cells := 0, slots := 0, locals := 0 } (PB [.long 55, .int 99] sz G cy ev []) (QBl (S := Unit) (fun (r : Int64) (u : Unit) => r = 1488) G (fun u => []) (va_A [] sz)) 0 0 (va_A [] sz) := by
  refine met_of (y := yX12_appends) (L := 3) (av := [.long 55, .int 99]) (Qc := fun A => QBl (S := Unit) (fun (r : Int64) (u : Unit) => r = 1488) G (fun u => []) A) (by decide) (Nat.le_of_ble_eq_true rfl) ?_
  intro p e s m below meth c hx hb hr hml hown hT hlocks hin hK A hA hE hP hD hS ls hl
  have hown : s.vm.findClass "LieClockModel" = some m.cls := hown
  have hl : lv_has ls 3 [(0, .long 55), (2, .int 99)] := hl
  refine lv_iload_n hx hb dX12_appends_0 rfl (lv_at hl 1 rfl) ?_
  refine lv_if_ne (tgt := 8) hx hb dX12_appends_1 (by decide) (fun _ => ?_) (fun c => absurd c (by decide))
  refine lv_ldc2 (v := 27) hx hb hown (hT _ tb_1374) dX12_appends_8 ?_
  refine lv_lload_n hx hb dX12_appends_11 rfl (lv_at hl 0 rfl) ?_
  refine kx_lmul (v := 1485) hx hb dX12_appends_12 (by decide) ?_
  refine lv_iload_n hx hb dX12_appends_13 rfl (lv_at hl 1 rfl) ?_
  refine lv_bipush (v := 97) hx hb dX12_appends_14 (by decide) ?_
  refine kx_isub (v := 2) hx hb dX12_appends_16 (by decide) ?_
  refine lv_iconst (v := 1) hx hb dX12_appends_17 (by decide) ?_
  refine kx_iadd (v := 3) hx hb dX12_appends_18 (by decide) ?_
  refine lv_i2l (v := 3) hx hb dX12_appends_19 (by decide) ?_
  refine kx_ladd (v := 1488) hx hb dX12_appends_20 (by decide) ?_
  exact kr_l hx hb hr hlocks hP hD hS (u := (() : Unit)) rfl [] rfl (by decide) (Nat.le_of_ble_eq_true rfl) (Nat.le_of_ble_eq_true rfl) dX12_appends_21

set_option maxRecDepth 100000 in
set_option maxHeartbeats 4000000 in
theorem zcX12_appends_41 (l : Launch) (G : va_G) (cy : Nat → ClassId) (ev : Ev) (sz : Nat)   : Met l yX12_appends (WS yX12_appends cX12_appends 3 (some .long)) { frames := 0, cells := 0, slots := 0, locals := 0 } (PB [.long 1488, .int 107] sz G cy ev []) (QBl (S := Unit) (fun (r : Int64) (u : Unit) => r = 40187) G (fun u => []) (va_A [] sz)) 0 0 (va_A [] sz) := by
  refine met_of (y := yX12_appends) (L := 3) (av := [.long 1488, .int 107]) (Qc := fun A => QBl (S := Unit) (fun (r : Int64) (u : Unit) => r = 40187) G (fun u => []) A) (by decide) (Nat.le_of_ble_eq_true rfl) ?_
  intro p e s m below meth c hx hb hr hml hown hT hlocks hin hK A hA hE hP hD hS ls hl
  have hown : s.vm.findClass "LieClockModel" = some m.cls := hown
  have hl : lv_has ls 3 [(0, .long 1488), (2, .int 107)] := hl
  refine lv_iload_n hx hb dX12_appends_0 rfl (lv_at hl 1 rfl) ?_
  refine lv_if_ne (tgt := 8) hx hb dX12_appends_1 (by decide) (fun _ => ?_) (fun c => absurd c (by decide))
  refine lv_ldc2 (v := 27) hx hb hown (hT _ tb_1374) dX12_appends_8 ?_
  refine lv_lload_n hx hb dX12_appends_11 rfl (lv_at hl 0 rfl) ?_
  refine kx_lmul (v := 40176) hx hb dX12_appends_12 (by decide) ?_
  refine lv_iload_n hx hb dX12_appends_13 rfl (lv_at hl 1 rfl) ?_
  refine lv_bipush (v := 97) hx hb dX12_appends_14 (by decide) ?_
  refine kx_isub (v := 10) hx hb dX12_appends_16 (by decide) ?_
  refine lv_iconst (v := 1) hx hb dX12_appends_17 (by decide) ?_
  refine kx_iadd (v := 11) hx hb dX12_appends_18 (by decide) ?_
  refine lv_i2l (v := 11) hx hb dX12_appends_19 (by decide) ?_
  refine kx_ladd (v := 40187) hx hb dX12_appends_20 (by decide) ?_
  exact kr_l hx hb hr hlocks hP hD hS (u := (() : Unit)) rfl [] rfl (by decide) (Nat.le_of_ble_eq_true rfl) (Nat.le_of_ble_eq_true rfl) dX12_appends_21

set_option maxRecDepth 100000 in
set_option maxHeartbeats 4000000 in
theorem zcX12_appends_42 (l : Launch) (G : va_G) (cy : Nat → ClassId) (ev : Ev) (sz : Nat)   : Met l yX12_appends (WS yX12_appends cX12_appends 3 (some .long)) { frames := 0, cells := 0, slots := 0, locals := 0 } (PB [.long 40187, .int 0] sz G cy ev []) (QBl (S := Unit) (fun (r : Int64) (u : Unit) => r = 40187) G (fun u => []) (va_A [] sz)) 0 0 (va_A [] sz) := by
  refine met_of (y := yX12_appends) (L := 3) (av := [.long 40187, .int 0]) (Qc := fun A => QBl (S := Unit) (fun (r : Int64) (u : Unit) => r = 40187) G (fun u => []) A) (by decide) (Nat.le_of_ble_eq_true rfl) ?_
  intro p e s m below meth c hx hb hr hml hown hT hlocks hin hK A hA hE hP hD hS ls hl
  have hown : s.vm.findClass "LieClockModel" = some m.cls := hown
  have hl : lv_has ls 3 [(0, .long 40187), (2, .int 0)] := hl
  refine lv_iload_n hx hb dX12_appends_0 rfl (lv_at hl 1 rfl) ?_
  refine lv_if_ne (tgt := 8) hx hb dX12_appends_1 (by decide) (fun c => absurd (by decide) c) (fun _ => ?_)
  refine lv_lload_n hx hb dX12_appends_4 rfl (lv_at hl 0 rfl) ?_
  refine lv_goto (tgt := 21) hx hb dX12_appends_5 (by decide) ?_
  exact kr_l hx hb hr hlocks hP hD hS (u := (() : Unit)) rfl [] rfl (by decide) (Nat.le_of_ble_eq_true rfl) (Nat.le_of_ble_eq_true rfl) dX12_appends_21

set_option maxRecDepth 100000 in
set_option maxHeartbeats 4000000 in
theorem zcX12_word_8 (l : Launch) (G : va_G) (cy : Nat → ClassId) (ev : Ev) (sz : Nat)   : Met l yX12_word (WS yX12_word cX12_word 7 (some .long)) { frames := 1, cells := 0, slots := 0, locals := 22 } (PB [.int 98, .int 97, .int 99, .int 107, .int 0, .int 0, .int 0] sz G cy ev []) (QBl (S := Unit) (fun (r : Int64) (u : Unit) => r = 40187) G (fun u => []) (va_A [] sz)) 0 0 (va_A [] sz) := by
  refine met_of (y := yX12_word) (L := 7) (av := [.int 98, .int 97, .int 99, .int 107, .int 0, .int 0, .int 0]) (Qc := fun A => QBl (S := Unit) (fun (r : Int64) (u : Unit) => r = 40187) G (fun u => []) A) (by decide) (Nat.le_of_ble_eq_true rfl) ?_
  intro p e s m below meth c hx hb hr hml hown hT hlocks hin hK A hA hE hP hD hS ls hl
  have hown : s.vm.findClass "LieClockModel" = some m.cls := hown
  have hl : lv_has ls 7 [(0, .int 98), (1, .int 97), (2, .int 99), (3, .int 107), (4, .int 0), (5, .int 0), (6, .int 0)] := hl
  refine lv_lconst (v := 0) hx hb dX12_word_0 (by decide) ?_
  refine lv_iload_n hx hb dX12_word_1 rfl (lv_at hl 0 rfl) ?_
  refine kc_l (W1 := []) (wr := []) [] [] rfl rfl (by decide) (by decide) hP hD hS hA (va_runS (As := [.long 0, .int 98]) (rest := []) ⟨hx, hb, hml, hown, hT⟩ (zcX12_appends_38 l G cy ev _ ) (va_cwS 2 hT (good_S tb_1373 tb_1371 tb_1372 tb_122) rfl rfl rfl (by decide +kernel) ⟨Nat.le_of_ble_eq_true rfl, Nat.le_of_ble_eq_true rfl⟩) (PB.preS hK hE hS hA hP hD [] rfl (by decide)) rfl rfl hl.1 rfl (lv_room (Nat.le_of_ble_eq_true rfl)) dX12_word_2 ⟨Nat.le_of_ble_eq_true rfl, Nat.le_of_ble_eq_true rfl⟩) (fun r u H locs hw hP hD hS => ?_)
  obtain rfl : r = 2 := hw
  obtain ⟨hP, hD⟩ : PD G A [] H := ⟨hP, hD⟩
  refine lv_iload_n hx hb dX12_word_5 rfl (lv_at hl 1 rfl) ?_
  refine kc_l (W1 := []) (wr := []) [] [] rfl rfl (by decide) (by decide) hP hD hS hA (va_runS (As := [.long 2, .int 97]) (rest := []) ⟨hx, hb, hml, hown, hT⟩ (zcX12_appends_39 l G cy ev _ ) (va_cwS 2 hT (good_S tb_1373 tb_1371 tb_1372 tb_122) rfl rfl rfl (by decide +kernel) ⟨Nat.le_of_ble_eq_true rfl, Nat.le_of_ble_eq_true rfl⟩) (PB.preS hK hE hS hA hP hD [] rfl (by decide)) rfl rfl hl.1 rfl (lv_room (Nat.le_of_ble_eq_true rfl)) dX12_word_6 ⟨Nat.le_of_ble_eq_true rfl, Nat.le_of_ble_eq_true rfl⟩) (fun r u H locs hw hP hD hS => ?_)
  obtain rfl : r = 55 := hw
  obtain ⟨hP, hD⟩ : PD G A [] H := ⟨hP, hD⟩
  refine lv_iload_n hx hb dX12_word_9 rfl (lv_at hl 2 rfl) ?_
  refine kc_l (W1 := []) (wr := []) [] [] rfl rfl (by decide) (by decide) hP hD hS hA (va_runS (As := [.long 55, .int 99]) (rest := []) ⟨hx, hb, hml, hown, hT⟩ (zcX12_appends_40 l G cy ev _ ) (va_cwS 2 hT (good_S tb_1373 tb_1371 tb_1372 tb_122) rfl rfl rfl (by decide +kernel) ⟨Nat.le_of_ble_eq_true rfl, Nat.le_of_ble_eq_true rfl⟩) (PB.preS hK hE hS hA hP hD [] rfl (by decide)) rfl rfl hl.1 rfl (lv_room (Nat.le_of_ble_eq_true rfl)) dX12_word_10 ⟨Nat.le_of_ble_eq_true rfl, Nat.le_of_ble_eq_true rfl⟩) (fun r u H locs hw hP hD hS => ?_)
  obtain rfl : r = 1488 := hw
  obtain ⟨hP, hD⟩ : PD G A [] H := ⟨hP, hD⟩
  refine lv_iload_n hx hb dX12_word_13 rfl (lv_at hl 3 rfl) ?_
  refine kc_l (W1 := []) (wr := []) [] [] rfl rfl (by decide) (by decide) hP hD hS hA (va_runS (As := [.long 1488, .int 107]) (rest := []) ⟨hx, hb, hml, hown, hT⟩ (zcX12_appends_41 l G cy ev _ ) (va_cwS 2 hT (good_S tb_1373 tb_1371 tb_1372 tb_122) rfl rfl rfl (by decide +kernel) ⟨Nat.le_of_ble_eq_true rfl, Nat.le_of_ble_eq_true rfl⟩) (PB.preS hK hE hS hA hP hD [] rfl (by decide)) rfl rfl hl.1 rfl (lv_room (Nat.le_of_ble_eq_true rfl)) dX12_word_14 ⟨Nat.le_of_ble_eq_true rfl, Nat.le_of_ble_eq_true rfl⟩) (fun r u H locs hw hP hD hS => ?_)
  obtain rfl : r = 40187 := hw
  obtain ⟨hP, hD⟩ : PD G A [] H := ⟨hP, hD⟩
  refine lv_iload hx hb dX12_word_17 (lv_at hl 4 rfl) ?_
  refine kc_l (W1 := []) (wr := []) [] [] rfl rfl (by decide) (by decide) hP hD hS hA (va_runS (As := [.long 40187, .int 0]) (rest := []) ⟨hx, hb, hml, hown, hT⟩ (zcX12_appends_42 l G cy ev _ ) (va_cwS 2 hT (good_S tb_1373 tb_1371 tb_1372 tb_122) rfl rfl rfl (by decide +kernel) ⟨Nat.le_of_ble_eq_true rfl, Nat.le_of_ble_eq_true rfl⟩) (PB.preS hK hE hS hA hP hD [] rfl (by decide)) rfl rfl hl.1 rfl (lv_room (Nat.le_of_ble_eq_true rfl)) dX12_word_19 ⟨Nat.le_of_ble_eq_true rfl, Nat.le_of_ble_eq_true rfl⟩) (fun r u H locs hw hP hD hS => ?_)
  obtain rfl : r = 40187 := hw
  obtain ⟨hP, hD⟩ : PD G A [] H := ⟨hP, hD⟩
  refine lv_iload hx hb dX12_word_22 (lv_at hl 5 rfl) ?_
  refine kc_l (W1 := []) (wr := []) [] [] rfl rfl (by decide) (by decide) hP hD hS hA (va_runS (As := [.long 40187, .int 0]) (rest := []) ⟨hx, hb, hml, hown, hT⟩ (zcX12_appends_42 l G cy ev _ ) (va_cwS 2 hT (good_S tb_1373 tb_1371 tb_1372 tb_122) rfl rfl rfl (by decide +kernel) ⟨Nat.le_of_ble_eq_true rfl, Nat.le_of_ble_eq_true rfl⟩) (PB.preS hK hE hS hA hP hD [] rfl (by decide)) rfl rfl hl.1 rfl (lv_room (Nat.le_of_ble_eq_true rfl)) dX12_word_24 ⟨Nat.le_of_ble_eq_true rfl, Nat.le_of_ble_eq_true rfl⟩) (fun r u H locs hw hP hD hS => ?_)
  obtain rfl : r = 40187 := hw
  obtain ⟨hP, hD⟩ : PD G A [] H := ⟨hP, hD⟩
  refine lv_iload hx hb dX12_word_27 (lv_at hl 6 rfl) ?_
  refine kc_l (W1 := []) (wr := []) [] [] rfl rfl (by decide) (by decide) hP hD hS hA (va_runS (As := [.long 40187, .int 0]) (rest := []) ⟨hx, hb, hml, hown, hT⟩ (zcX12_appends_42 l G cy ev _ ) (va_cwS 2 hT (good_S tb_1373 tb_1371 tb_1372 tb_122) rfl rfl rfl (by decide +kernel) ⟨Nat.le_of_ble_eq_true rfl, Nat.le_of_ble_eq_true rfl⟩) (PB.preS hK hE hS hA hP hD [] rfl (by decide)) rfl rfl hl.1 rfl (lv_room (Nat.le_of_ble_eq_true rfl)) dX12_word_29 ⟨Nat.le_of_ble_eq_true rfl, Nat.le_of_ble_eq_true rfl⟩) (fun r u H locs hw hP hD hS => ?_)
  obtain rfl : r = 40187 := hw
  obtain ⟨hP, hD⟩ : PD G A [] H := ⟨hP, hD⟩
  exact kr_l hx hb hr hlocks hP hD hS (u := (() : Unit)) rfl [] rfl (by decide) (Nat.le_of_ble_eq_true rfl) (Nat.le_of_ble_eq_true rfl) dX12_word_32

set_option maxRecDepth 100000 in
set_option maxHeartbeats 4000000 in
theorem zcX12_appends_43 (l : Launch) (G : va_G) (cy : Nat → ClassId) (ev : Ev) (sz : Nat)   : Met l yX12_appends (WS yX12_appends cX12_appends 3 (some .long)) { frames := 0, cells := 0, slots := 0, locals := 0 } (PB [.long 6, .int 111] sz G cy ev []) (QBl (S := Unit) (fun (r : Int64) (u : Unit) => r = 177) G (fun u => []) (va_A [] sz)) 0 0 (va_A [] sz) := by
  refine met_of (y := yX12_appends) (L := 3) (av := [.long 6, .int 111]) (Qc := fun A => QBl (S := Unit) (fun (r : Int64) (u : Unit) => r = 177) G (fun u => []) A) (by decide) (Nat.le_of_ble_eq_true rfl) ?_
  intro p e s m below meth c hx hb hr hml hown hT hlocks hin hK A hA hE hP hD hS ls hl
  have hown : s.vm.findClass "LieClockModel" = some m.cls := hown
  have hl : lv_has ls 3 [(0, .long 6), (2, .int 111)] := hl
  refine lv_iload_n hx hb dX12_appends_0 rfl (lv_at hl 1 rfl) ?_
  refine lv_if_ne (tgt := 8) hx hb dX12_appends_1 (by decide) (fun _ => ?_) (fun c => absurd c (by decide))
  refine lv_ldc2 (v := 27) hx hb hown (hT _ tb_1374) dX12_appends_8 ?_
  refine lv_lload_n hx hb dX12_appends_11 rfl (lv_at hl 0 rfl) ?_
  refine kx_lmul (v := 162) hx hb dX12_appends_12 (by decide) ?_
  refine lv_iload_n hx hb dX12_appends_13 rfl (lv_at hl 1 rfl) ?_
  refine lv_bipush (v := 97) hx hb dX12_appends_14 (by decide) ?_
  refine kx_isub (v := 14) hx hb dX12_appends_16 (by decide) ?_
  refine lv_iconst (v := 1) hx hb dX12_appends_17 (by decide) ?_
  refine kx_iadd (v := 15) hx hb dX12_appends_18 (by decide) ?_
  refine lv_i2l (v := 15) hx hb dX12_appends_19 (by decide) ?_
  refine kx_ladd (v := 177) hx hb dX12_appends_20 (by decide) ?_
  exact kr_l hx hb hr hlocks hP hD hS (u := (() : Unit)) rfl [] rfl (by decide) (Nat.le_of_ble_eq_true rfl) (Nat.le_of_ble_eq_true rfl) dX12_appends_21

set_option maxRecDepth 100000 in
set_option maxHeartbeats 4000000 in
theorem zcX12_appends_44 (l : Launch) (G : va_G) (cy : Nat → ClassId) (ev : Ev) (sz : Nat)   : Met l yX12_appends (WS yX12_appends cX12_appends 3 (some .long)) { frames := 0, cells := 0, slots := 0, locals := 0 } (PB [.long 177, .int 114] sz G cy ev []) (QBl (S := Unit) (fun (r : Int64) (u : Unit) => r = 4797) G (fun u => []) (va_A [] sz)) 0 0 (va_A [] sz) := by
  refine met_of (y := yX12_appends) (L := 3) (av := [.long 177, .int 114]) (Qc := fun A => QBl (S := Unit) (fun (r : Int64) (u : Unit) => r = 4797) G (fun u => []) A) (by decide) (Nat.le_of_ble_eq_true rfl) ?_
  intro p e s m below meth c hx hb hr hml hown hT hlocks hin hK A hA hE hP hD hS ls hl
  have hown : s.vm.findClass "LieClockModel" = some m.cls := hown
  have hl : lv_has ls 3 [(0, .long 177), (2, .int 114)] := hl
  refine lv_iload_n hx hb dX12_appends_0 rfl (lv_at hl 1 rfl) ?_
  refine lv_if_ne (tgt := 8) hx hb dX12_appends_1 (by decide) (fun _ => ?_) (fun c => absurd c (by decide))
  refine lv_ldc2 (v := 27) hx hb hown (hT _ tb_1374) dX12_appends_8 ?_
  refine lv_lload_n hx hb dX12_appends_11 rfl (lv_at hl 0 rfl) ?_
  refine kx_lmul (v := 4779) hx hb dX12_appends_12 (by decide) ?_
  refine lv_iload_n hx hb dX12_appends_13 rfl (lv_at hl 1 rfl) ?_
  refine lv_bipush (v := 97) hx hb dX12_appends_14 (by decide) ?_
  refine kx_isub (v := 17) hx hb dX12_appends_16 (by decide) ?_
  refine lv_iconst (v := 1) hx hb dX12_appends_17 (by decide) ?_
  refine kx_iadd (v := 18) hx hb dX12_appends_18 (by decide) ?_
  refine lv_i2l (v := 18) hx hb dX12_appends_19 (by decide) ?_
  refine kx_ladd (v := 4797) hx hb dX12_appends_20 (by decide) ?_
  exact kr_l hx hb hr hlocks hP hD hS (u := (() : Unit)) rfl [] rfl (by decide) (Nat.le_of_ble_eq_true rfl) (Nat.le_of_ble_eq_true rfl) dX12_appends_21

set_option maxRecDepth 100000 in
set_option maxHeartbeats 4000000 in
theorem zcX12_appends_45 (l : Launch) (G : va_G) (cy : Nat → ClassId) (ev : Ev) (sz : Nat)   : Met l yX12_appends (WS yX12_appends cX12_appends 3 (some .long)) { frames := 0, cells := 0, slots := 0, locals := 0 } (PB [.long 4797, .int 116] sz G cy ev []) (QBl (S := Unit) (fun (r : Int64) (u : Unit) => r = 129539) G (fun u => []) (va_A [] sz)) 0 0 (va_A [] sz) := by
  refine met_of (y := yX12_appends) (L := 3) (av := [.long 4797, .int 116]) (Qc := fun A => QBl (S := Unit) (fun (r : Int64) (u : Unit) => r = 129539) G (fun u => []) A) (by decide) (Nat.le_of_ble_eq_true rfl) ?_
  intro p e s m below meth c hx hb hr hml hown hT hlocks hin hK A hA hE hP hD hS ls hl
  have hown : s.vm.findClass "LieClockModel" = some m.cls := hown
  have hl : lv_has ls 3 [(0, .long 4797), (2, .int 116)] := hl
  refine lv_iload_n hx hb dX12_appends_0 rfl (lv_at hl 1 rfl) ?_
  refine lv_if_ne (tgt := 8) hx hb dX12_appends_1 (by decide) (fun _ => ?_) (fun c => absurd c (by decide))
  refine lv_ldc2 (v := 27) hx hb hown (hT _ tb_1374) dX12_appends_8 ?_
  refine lv_lload_n hx hb dX12_appends_11 rfl (lv_at hl 0 rfl) ?_
  refine kx_lmul (v := 129519) hx hb dX12_appends_12 (by decide) ?_
  refine lv_iload_n hx hb dX12_appends_13 rfl (lv_at hl 1 rfl) ?_
  refine lv_bipush (v := 97) hx hb dX12_appends_14 (by decide) ?_
  refine kx_isub (v := 19) hx hb dX12_appends_16 (by decide) ?_
  refine lv_iconst (v := 1) hx hb dX12_appends_17 (by decide) ?_
  refine kx_iadd (v := 20) hx hb dX12_appends_18 (by decide) ?_
  refine lv_i2l (v := 20) hx hb dX12_appends_19 (by decide) ?_
  refine kx_ladd (v := 129539) hx hb dX12_appends_20 (by decide) ?_
  exact kr_l hx hb hr hlocks hP hD hS (u := (() : Unit)) rfl [] rfl (by decide) (Nat.le_of_ble_eq_true rfl) (Nat.le_of_ble_eq_true rfl) dX12_appends_21

set_option maxRecDepth 100000 in
set_option maxHeartbeats 4000000 in
theorem zcX12_appends_46 (l : Launch) (G : va_G) (cy : Nat → ClassId) (ev : Ev) (sz : Nat)   : Met l yX12_appends (WS yX12_appends cX12_appends 3 (some .long)) { frames := 0, cells := 0, slots := 0, locals := 0 } (PB [.long 129539, .int 104] sz G cy ev []) (QBl (S := Unit) (fun (r : Int64) (u : Unit) => r = 3497561) G (fun u => []) (va_A [] sz)) 0 0 (va_A [] sz) := by
  refine met_of (y := yX12_appends) (L := 3) (av := [.long 129539, .int 104]) (Qc := fun A => QBl (S := Unit) (fun (r : Int64) (u : Unit) => r = 3497561) G (fun u => []) A) (by decide) (Nat.le_of_ble_eq_true rfl) ?_
  intro p e s m below meth c hx hb hr hml hown hT hlocks hin hK A hA hE hP hD hS ls hl
  have hown : s.vm.findClass "LieClockModel" = some m.cls := hown
  have hl : lv_has ls 3 [(0, .long 129539), (2, .int 104)] := hl
  refine lv_iload_n hx hb dX12_appends_0 rfl (lv_at hl 1 rfl) ?_
  refine lv_if_ne (tgt := 8) hx hb dX12_appends_1 (by decide) (fun _ => ?_) (fun c => absurd c (by decide))
  refine lv_ldc2 (v := 27) hx hb hown (hT _ tb_1374) dX12_appends_8 ?_
  refine lv_lload_n hx hb dX12_appends_11 rfl (lv_at hl 0 rfl) ?_
  refine kx_lmul (v := 3497553) hx hb dX12_appends_12 (by decide) ?_
  refine lv_iload_n hx hb dX12_appends_13 rfl (lv_at hl 1 rfl) ?_
  refine lv_bipush (v := 97) hx hb dX12_appends_14 (by decide) ?_
  refine kx_isub (v := 7) hx hb dX12_appends_16 (by decide) ?_
  refine lv_iconst (v := 1) hx hb dX12_appends_17 (by decide) ?_
  refine kx_iadd (v := 8) hx hb dX12_appends_18 (by decide) ?_
  refine lv_i2l (v := 8) hx hb dX12_appends_19 (by decide) ?_
  refine kx_ladd (v := 3497561) hx hb dX12_appends_20 (by decide) ?_
  exact kr_l hx hb hr hlocks hP hD hS (u := (() : Unit)) rfl [] rfl (by decide) (Nat.le_of_ble_eq_true rfl) (Nat.le_of_ble_eq_true rfl) dX12_appends_21

set_option maxRecDepth 100000 in
set_option maxHeartbeats 4000000 in
theorem zcX12_appends_47 (l : Launch) (G : va_G) (cy : Nat → ClassId) (ev : Ev) (sz : Nat)   : Met l yX12_appends (WS yX12_appends cX12_appends 3 (some .long)) { frames := 0, cells := 0, slots := 0, locals := 0 } (PB [.long 3497561, .int 0] sz G cy ev []) (QBl (S := Unit) (fun (r : Int64) (u : Unit) => r = 3497561) G (fun u => []) (va_A [] sz)) 0 0 (va_A [] sz) := by
  refine met_of (y := yX12_appends) (L := 3) (av := [.long 3497561, .int 0]) (Qc := fun A => QBl (S := Unit) (fun (r : Int64) (u : Unit) => r = 3497561) G (fun u => []) A) (by decide) (Nat.le_of_ble_eq_true rfl) ?_
  intro p e s m below meth c hx hb hr hml hown hT hlocks hin hK A hA hE hP hD hS ls hl
  have hown : s.vm.findClass "LieClockModel" = some m.cls := hown
  have hl : lv_has ls 3 [(0, .long 3497561), (2, .int 0)] := hl
  refine lv_iload_n hx hb dX12_appends_0 rfl (lv_at hl 1 rfl) ?_
  refine lv_if_ne (tgt := 8) hx hb dX12_appends_1 (by decide) (fun c => absurd (by decide) c) (fun _ => ?_)
  refine lv_lload_n hx hb dX12_appends_4 rfl (lv_at hl 0 rfl) ?_
  refine lv_goto (tgt := 21) hx hb dX12_appends_5 (by decide) ?_
  exact kr_l hx hb hr hlocks hP hD hS (u := (() : Unit)) rfl [] rfl (by decide) (Nat.le_of_ble_eq_true rfl) (Nat.le_of_ble_eq_true rfl) dX12_appends_21

set_option maxRecDepth 100000 in
set_option maxHeartbeats 4000000 in
theorem zcX12_word_9 (l : Launch) (G : va_G) (cy : Nat → ClassId) (ev : Ev) (sz : Nat)   : Met l yX12_word (WS yX12_word cX12_word 7 (some .long)) { frames := 1, cells := 0, slots := 0, locals := 22 } (PB [.int 102, .int 111, .int 114, .int 116, .int 104, .int 0, .int 0] sz G cy ev []) (QBl (S := Unit) (fun (r : Int64) (u : Unit) => r = 3497561) G (fun u => []) (va_A [] sz)) 0 0 (va_A [] sz) := by
  refine met_of (y := yX12_word) (L := 7) (av := [.int 102, .int 111, .int 114, .int 116, .int 104, .int 0, .int 0]) (Qc := fun A => QBl (S := Unit) (fun (r : Int64) (u : Unit) => r = 3497561) G (fun u => []) A) (by decide) (Nat.le_of_ble_eq_true rfl) ?_
  intro p e s m below meth c hx hb hr hml hown hT hlocks hin hK A hA hE hP hD hS ls hl
  have hown : s.vm.findClass "LieClockModel" = some m.cls := hown
  have hl : lv_has ls 7 [(0, .int 102), (1, .int 111), (2, .int 114), (3, .int 116), (4, .int 104), (5, .int 0), (6, .int 0)] := hl
  refine lv_lconst (v := 0) hx hb dX12_word_0 (by decide) ?_
  refine lv_iload_n hx hb dX12_word_1 rfl (lv_at hl 0 rfl) ?_
  refine kc_l (W1 := []) (wr := []) [] [] rfl rfl (by decide) (by decide) hP hD hS hA (va_runS (As := [.long 0, .int 102]) (rest := []) ⟨hx, hb, hml, hown, hT⟩ (zcX12_appends_0 l G cy ev _ ) (va_cwS 2 hT (good_S tb_1373 tb_1371 tb_1372 tb_122) rfl rfl rfl (by decide +kernel) ⟨Nat.le_of_ble_eq_true rfl, Nat.le_of_ble_eq_true rfl⟩) (PB.preS hK hE hS hA hP hD [] rfl (by decide)) rfl rfl hl.1 rfl (lv_room (Nat.le_of_ble_eq_true rfl)) dX12_word_2 ⟨Nat.le_of_ble_eq_true rfl, Nat.le_of_ble_eq_true rfl⟩) (fun r u H locs hw hP hD hS => ?_)
  obtain rfl : r = 6 := hw
  obtain ⟨hP, hD⟩ : PD G A [] H := ⟨hP, hD⟩
  refine lv_iload_n hx hb dX12_word_5 rfl (lv_at hl 1 rfl) ?_
  refine kc_l (W1 := []) (wr := []) [] [] rfl rfl (by decide) (by decide) hP hD hS hA (va_runS (As := [.long 6, .int 111]) (rest := []) ⟨hx, hb, hml, hown, hT⟩ (zcX12_appends_43 l G cy ev _ ) (va_cwS 2 hT (good_S tb_1373 tb_1371 tb_1372 tb_122) rfl rfl rfl (by decide +kernel) ⟨Nat.le_of_ble_eq_true rfl, Nat.le_of_ble_eq_true rfl⟩) (PB.preS hK hE hS hA hP hD [] rfl (by decide)) rfl rfl hl.1 rfl (lv_room (Nat.le_of_ble_eq_true rfl)) dX12_word_6 ⟨Nat.le_of_ble_eq_true rfl, Nat.le_of_ble_eq_true rfl⟩) (fun r u H locs hw hP hD hS => ?_)
  obtain rfl : r = 177 := hw
  obtain ⟨hP, hD⟩ : PD G A [] H := ⟨hP, hD⟩
  refine lv_iload_n hx hb dX12_word_9 rfl (lv_at hl 2 rfl) ?_
  refine kc_l (W1 := []) (wr := []) [] [] rfl rfl (by decide) (by decide) hP hD hS hA (va_runS (As := [.long 177, .int 114]) (rest := []) ⟨hx, hb, hml, hown, hT⟩ (zcX12_appends_44 l G cy ev _ ) (va_cwS 2 hT (good_S tb_1373 tb_1371 tb_1372 tb_122) rfl rfl rfl (by decide +kernel) ⟨Nat.le_of_ble_eq_true rfl, Nat.le_of_ble_eq_true rfl⟩) (PB.preS hK hE hS hA hP hD [] rfl (by decide)) rfl rfl hl.1 rfl (lv_room (Nat.le_of_ble_eq_true rfl)) dX12_word_10 ⟨Nat.le_of_ble_eq_true rfl, Nat.le_of_ble_eq_true rfl⟩) (fun r u H locs hw hP hD hS => ?_)
  obtain rfl : r = 4797 := hw
  obtain ⟨hP, hD⟩ : PD G A [] H := ⟨hP, hD⟩
  refine lv_iload_n hx hb dX12_word_13 rfl (lv_at hl 3 rfl) ?_
  refine kc_l (W1 := []) (wr := []) [] [] rfl rfl (by decide) (by decide) hP hD hS hA (va_runS (As := [.long 4797, .int 116]) (rest := []) ⟨hx, hb, hml, hown, hT⟩ (zcX12_appends_45 l G cy ev _ ) (va_cwS 2 hT (good_S tb_1373 tb_1371 tb_1372 tb_122) rfl rfl rfl (by decide +kernel) ⟨Nat.le_of_ble_eq_true rfl, Nat.le_of_ble_eq_true rfl⟩) (PB.preS hK hE hS hA hP hD [] rfl (by decide)) rfl rfl hl.1 rfl (lv_room (Nat.le_of_ble_eq_true rfl)) dX12_word_14 ⟨Nat.le_of_ble_eq_true rfl, Nat.le_of_ble_eq_true rfl⟩) (fun r u H locs hw hP hD hS => ?_)
  obtain rfl : r = 129539 := hw
  obtain ⟨hP, hD⟩ : PD G A [] H := ⟨hP, hD⟩
  refine lv_iload hx hb dX12_word_17 (lv_at hl 4 rfl) ?_
  refine kc_l (W1 := []) (wr := []) [] [] rfl rfl (by decide) (by decide) hP hD hS hA (va_runS (As := [.long 129539, .int 104]) (rest := []) ⟨hx, hb, hml, hown, hT⟩ (zcX12_appends_46 l G cy ev _ ) (va_cwS 2 hT (good_S tb_1373 tb_1371 tb_1372 tb_122) rfl rfl rfl (by decide +kernel) ⟨Nat.le_of_ble_eq_true rfl, Nat.le_of_ble_eq_true rfl⟩) (PB.preS hK hE hS hA hP hD [] rfl (by decide)) rfl rfl hl.1 rfl (lv_room (Nat.le_of_ble_eq_true rfl)) dX12_word_19 ⟨Nat.le_of_ble_eq_true rfl, Nat.le_of_ble_eq_true rfl⟩) (fun r u H locs hw hP hD hS => ?_)
  obtain rfl : r = 3497561 := hw
  obtain ⟨hP, hD⟩ : PD G A [] H := ⟨hP, hD⟩
  refine lv_iload hx hb dX12_word_22 (lv_at hl 5 rfl) ?_
  refine kc_l (W1 := []) (wr := []) [] [] rfl rfl (by decide) (by decide) hP hD hS hA (va_runS (As := [.long 3497561, .int 0]) (rest := []) ⟨hx, hb, hml, hown, hT⟩ (zcX12_appends_47 l G cy ev _ ) (va_cwS 2 hT (good_S tb_1373 tb_1371 tb_1372 tb_122) rfl rfl rfl (by decide +kernel) ⟨Nat.le_of_ble_eq_true rfl, Nat.le_of_ble_eq_true rfl⟩) (PB.preS hK hE hS hA hP hD [] rfl (by decide)) rfl rfl hl.1 rfl (lv_room (Nat.le_of_ble_eq_true rfl)) dX12_word_24 ⟨Nat.le_of_ble_eq_true rfl, Nat.le_of_ble_eq_true rfl⟩) (fun r u H locs hw hP hD hS => ?_)
  obtain rfl : r = 3497561 := hw
  obtain ⟨hP, hD⟩ : PD G A [] H := ⟨hP, hD⟩
  refine lv_iload hx hb dX12_word_27 (lv_at hl 6 rfl) ?_
  refine kc_l (W1 := []) (wr := []) [] [] rfl rfl (by decide) (by decide) hP hD hS hA (va_runS (As := [.long 3497561, .int 0]) (rest := []) ⟨hx, hb, hml, hown, hT⟩ (zcX12_appends_47 l G cy ev _ ) (va_cwS 2 hT (good_S tb_1373 tb_1371 tb_1372 tb_122) rfl rfl rfl (by decide +kernel) ⟨Nat.le_of_ble_eq_true rfl, Nat.le_of_ble_eq_true rfl⟩) (PB.preS hK hE hS hA hP hD [] rfl (by decide)) rfl rfl hl.1 rfl (lv_room (Nat.le_of_ble_eq_true rfl)) dX12_word_29 ⟨Nat.le_of_ble_eq_true rfl, Nat.le_of_ble_eq_true rfl⟩) (fun r u H locs hw hP hD hS => ?_)
  obtain rfl : r = 3497561 := hw
  obtain ⟨hP, hD⟩ : PD G A [] H := ⟨hP, hD⟩
  exact kr_l hx hb hr hlocks hP hD hS (u := (() : Unit)) rfl [] rfl (by decide) (Nat.le_of_ble_eq_true rfl) (Nat.le_of_ble_eq_true rfl) dX12_word_32

set_option maxRecDepth 100000 in
set_option maxHeartbeats 4000000 in
theorem zcX12_appends_48 (l : Launch) (G : va_G) (cy : Nat → ClassId) (ev : Ev) (sz : Nat)   : Met l yX12_appends (WS yX12_appends cX12_appends 3 (some .long)) { frames := 0, cells := 0, slots := 0, locals := 0 } (PB [.long 3, .int 108] sz G cy ev []) (QBl (S := Unit) (fun (r : Int64) (u : Unit) => r = 93) G (fun u => []) (va_A [] sz)) 0 0 (va_A [] sz) := by
  refine met_of (y := yX12_appends) (L := 3) (av := [.long 3, .int 108]) (Qc := fun A => QBl (S := Unit) (fun (r : Int64) (u : Unit) => r = 93) G (fun u => []) A) (by decide) (Nat.le_of_ble_eq_true rfl) ?_
  intro p e s m below meth c hx hb hr hml hown hT hlocks hin hK A hA hE hP hD hS ls hl
  have hown : s.vm.findClass "LieClockModel" = some m.cls := hown
  have hl : lv_has ls 3 [(0, .long 3), (2, .int 108)] := hl
  refine lv_iload_n hx hb dX12_appends_0 rfl (lv_at hl 1 rfl) ?_
  refine lv_if_ne (tgt := 8) hx hb dX12_appends_1 (by decide) (fun _ => ?_) (fun c => absurd c (by decide))
  refine lv_ldc2 (v := 27) hx hb hown (hT _ tb_1374) dX12_appends_8 ?_
  refine lv_lload_n hx hb dX12_appends_11 rfl (lv_at hl 0 rfl) ?_
  refine kx_lmul (v := 81) hx hb dX12_appends_12 (by decide) ?_
  refine lv_iload_n hx hb dX12_appends_13 rfl (lv_at hl 1 rfl) ?_
  refine lv_bipush (v := 97) hx hb dX12_appends_14 (by decide) ?_
  refine kx_isub (v := 11) hx hb dX12_appends_16 (by decide) ?_
  refine lv_iconst (v := 1) hx hb dX12_appends_17 (by decide) ?_
  refine kx_iadd (v := 12) hx hb dX12_appends_18 (by decide) ?_
  refine lv_i2l (v := 12) hx hb dX12_appends_19 (by decide) ?_
  refine kx_ladd (v := 93) hx hb dX12_appends_20 (by decide) ?_
  exact kr_l hx hb hr hlocks hP hD hS (u := (() : Unit)) rfl [] rfl (by decide) (Nat.le_of_ble_eq_true rfl) (Nat.le_of_ble_eq_true rfl) dX12_appends_21

set_option maxRecDepth 100000 in
set_option maxHeartbeats 4000000 in
theorem zcX12_appends_49 (l : Launch) (G : va_G) (cy : Nat → ClassId) (ev : Ev) (sz : Nat)   : Met l yX12_appends (WS yX12_appends cX12_appends 3 (some .long)) { frames := 0, cells := 0, slots := 0, locals := 0 } (PB [.long 93, .int 111] sz G cy ev []) (QBl (S := Unit) (fun (r : Int64) (u : Unit) => r = 2526) G (fun u => []) (va_A [] sz)) 0 0 (va_A [] sz) := by
  refine met_of (y := yX12_appends) (L := 3) (av := [.long 93, .int 111]) (Qc := fun A => QBl (S := Unit) (fun (r : Int64) (u : Unit) => r = 2526) G (fun u => []) A) (by decide) (Nat.le_of_ble_eq_true rfl) ?_
  intro p e s m below meth c hx hb hr hml hown hT hlocks hin hK A hA hE hP hD hS ls hl
  have hown : s.vm.findClass "LieClockModel" = some m.cls := hown
  have hl : lv_has ls 3 [(0, .long 93), (2, .int 111)] := hl
  refine lv_iload_n hx hb dX12_appends_0 rfl (lv_at hl 1 rfl) ?_
  refine lv_if_ne (tgt := 8) hx hb dX12_appends_1 (by decide) (fun _ => ?_) (fun c => absurd c (by decide))
  refine lv_ldc2 (v := 27) hx hb hown (hT _ tb_1374) dX12_appends_8 ?_
  refine lv_lload_n hx hb dX12_appends_11 rfl (lv_at hl 0 rfl) ?_
  refine kx_lmul (v := 2511) hx hb dX12_appends_12 (by decide) ?_
  refine lv_iload_n hx hb dX12_appends_13 rfl (lv_at hl 1 rfl) ?_
  refine lv_bipush (v := 97) hx hb dX12_appends_14 (by decide) ?_
  refine kx_isub (v := 14) hx hb dX12_appends_16 (by decide) ?_
  refine lv_iconst (v := 1) hx hb dX12_appends_17 (by decide) ?_
  refine kx_iadd (v := 15) hx hb dX12_appends_18 (by decide) ?_
  refine lv_i2l (v := 15) hx hb dX12_appends_19 (by decide) ?_
  refine kx_ladd (v := 2526) hx hb dX12_appends_20 (by decide) ?_
  exact kr_l hx hb hr hlocks hP hD hS (u := (() : Unit)) rfl [] rfl (by decide) (Nat.le_of_ble_eq_true rfl) (Nat.le_of_ble_eq_true rfl) dX12_appends_21

set_option maxRecDepth 100000 in
set_option maxHeartbeats 4000000 in
theorem zcX12_appends_50 (l : Launch) (G : va_G) (cy : Nat → ClassId) (ev : Ev) (sz : Nat)   : Met l yX12_appends (WS yX12_appends cX12_appends 3 (some .long)) { frames := 0, cells := 0, slots := 0, locals := 0 } (PB [.long 2526, .int 99] sz G cy ev []) (QBl (S := Unit) (fun (r : Int64) (u : Unit) => r = 68205) G (fun u => []) (va_A [] sz)) 0 0 (va_A [] sz) := by
  refine met_of (y := yX12_appends) (L := 3) (av := [.long 2526, .int 99]) (Qc := fun A => QBl (S := Unit) (fun (r : Int64) (u : Unit) => r = 68205) G (fun u => []) A) (by decide) (Nat.le_of_ble_eq_true rfl) ?_
  intro p e s m below meth c hx hb hr hml hown hT hlocks hin hK A hA hE hP hD hS ls hl
  have hown : s.vm.findClass "LieClockModel" = some m.cls := hown
  have hl : lv_has ls 3 [(0, .long 2526), (2, .int 99)] := hl
  refine lv_iload_n hx hb dX12_appends_0 rfl (lv_at hl 1 rfl) ?_
  refine lv_if_ne (tgt := 8) hx hb dX12_appends_1 (by decide) (fun _ => ?_) (fun c => absurd c (by decide))
  refine lv_ldc2 (v := 27) hx hb hown (hT _ tb_1374) dX12_appends_8 ?_
  refine lv_lload_n hx hb dX12_appends_11 rfl (lv_at hl 0 rfl) ?_
  refine kx_lmul (v := 68202) hx hb dX12_appends_12 (by decide) ?_
  refine lv_iload_n hx hb dX12_appends_13 rfl (lv_at hl 1 rfl) ?_
  refine lv_bipush (v := 97) hx hb dX12_appends_14 (by decide) ?_
  refine kx_isub (v := 2) hx hb dX12_appends_16 (by decide) ?_
  refine lv_iconst (v := 1) hx hb dX12_appends_17 (by decide) ?_
  refine kx_iadd (v := 3) hx hb dX12_appends_18 (by decide) ?_
  refine lv_i2l (v := 3) hx hb dX12_appends_19 (by decide) ?_
  refine kx_ladd (v := 68205) hx hb dX12_appends_20 (by decide) ?_
  exact kr_l hx hb hr hlocks hP hD hS (u := (() : Unit)) rfl [] rfl (by decide) (Nat.le_of_ble_eq_true rfl) (Nat.le_of_ble_eq_true rfl) dX12_appends_21

set_option maxRecDepth 100000 in
set_option maxHeartbeats 4000000 in
theorem zcX12_appends_51 (l : Launch) (G : va_G) (cy : Nat → ClassId) (ev : Ev) (sz : Nat)   : Met l yX12_appends (WS yX12_appends cX12_appends 3 (some .long)) { frames := 0, cells := 0, slots := 0, locals := 0 } (PB [.long 68205, .int 107] sz G cy ev []) (QBl (S := Unit) (fun (r : Int64) (u : Unit) => r = 1841546) G (fun u => []) (va_A [] sz)) 0 0 (va_A [] sz) := by
  refine met_of (y := yX12_appends) (L := 3) (av := [.long 68205, .int 107]) (Qc := fun A => QBl (S := Unit) (fun (r : Int64) (u : Unit) => r = 1841546) G (fun u => []) A) (by decide) (Nat.le_of_ble_eq_true rfl) ?_
  intro p e s m below meth c hx hb hr hml hown hT hlocks hin hK A hA hE hP hD hS ls hl
  have hown : s.vm.findClass "LieClockModel" = some m.cls := hown
  have hl : lv_has ls 3 [(0, .long 68205), (2, .int 107)] := hl
  refine lv_iload_n hx hb dX12_appends_0 rfl (lv_at hl 1 rfl) ?_
  refine lv_if_ne (tgt := 8) hx hb dX12_appends_1 (by decide) (fun _ => ?_) (fun c => absurd c (by decide))
  refine lv_ldc2 (v := 27) hx hb hown (hT _ tb_1374) dX12_appends_8 ?_
  refine lv_lload_n hx hb dX12_appends_11 rfl (lv_at hl 0 rfl) ?_
  refine kx_lmul (v := 1841535) hx hb dX12_appends_12 (by decide) ?_
  refine lv_iload_n hx hb dX12_appends_13 rfl (lv_at hl 1 rfl) ?_
  refine lv_bipush (v := 97) hx hb dX12_appends_14 (by decide) ?_
  refine kx_isub (v := 10) hx hb dX12_appends_16 (by decide) ?_
  refine lv_iconst (v := 1) hx hb dX12_appends_17 (by decide) ?_
  refine kx_iadd (v := 11) hx hb dX12_appends_18 (by decide) ?_
  refine lv_i2l (v := 11) hx hb dX12_appends_19 (by decide) ?_
  refine kx_ladd (v := 1841546) hx hb dX12_appends_20 (by decide) ?_
  exact kr_l hx hb hr hlocks hP hD hS (u := (() : Unit)) rfl [] rfl (by decide) (Nat.le_of_ble_eq_true rfl) (Nat.le_of_ble_eq_true rfl) dX12_appends_21

set_option maxRecDepth 100000 in
set_option maxHeartbeats 4000000 in
theorem zcX12_appends_52 (l : Launch) (G : va_G) (cy : Nat → ClassId) (ev : Ev) (sz : Nat)   : Met l yX12_appends (WS yX12_appends cX12_appends 3 (some .long)) { frames := 0, cells := 0, slots := 0, locals := 0 } (PB [.long 1841546, .int 0] sz G cy ev []) (QBl (S := Unit) (fun (r : Int64) (u : Unit) => r = 1841546) G (fun u => []) (va_A [] sz)) 0 0 (va_A [] sz) := by
  refine met_of (y := yX12_appends) (L := 3) (av := [.long 1841546, .int 0]) (Qc := fun A => QBl (S := Unit) (fun (r : Int64) (u : Unit) => r = 1841546) G (fun u => []) A) (by decide) (Nat.le_of_ble_eq_true rfl) ?_
  intro p e s m below meth c hx hb hr hml hown hT hlocks hin hK A hA hE hP hD hS ls hl
  have hown : s.vm.findClass "LieClockModel" = some m.cls := hown
  have hl : lv_has ls 3 [(0, .long 1841546), (2, .int 0)] := hl
  refine lv_iload_n hx hb dX12_appends_0 rfl (lv_at hl 1 rfl) ?_
  refine lv_if_ne (tgt := 8) hx hb dX12_appends_1 (by decide) (fun c => absurd (by decide) c) (fun _ => ?_)
  refine lv_lload_n hx hb dX12_appends_4 rfl (lv_at hl 0 rfl) ?_
  refine lv_goto (tgt := 21) hx hb dX12_appends_5 (by decide) ?_
  exact kr_l hx hb hr hlocks hP hD hS (u := (() : Unit)) rfl [] rfl (by decide) (Nat.le_of_ble_eq_true rfl) (Nat.le_of_ble_eq_true rfl) dX12_appends_21

set_option maxRecDepth 100000 in
set_option maxHeartbeats 4000000 in
theorem zcX12_word_10 (l : Launch) (G : va_G) (cy : Nat → ClassId) (ev : Ev) (sz : Nat)   : Met l yX12_word (WS yX12_word cX12_word 7 (some .long)) { frames := 1, cells := 0, slots := 0, locals := 22 } (PB [.int 99, .int 108, .int 111, .int 99, .int 107, .int 0, .int 0] sz G cy ev []) (QBl (S := Unit) (fun (r : Int64) (u : Unit) => r = 1841546) G (fun u => []) (va_A [] sz)) 0 0 (va_A [] sz) := by
  refine met_of (y := yX12_word) (L := 7) (av := [.int 99, .int 108, .int 111, .int 99, .int 107, .int 0, .int 0]) (Qc := fun A => QBl (S := Unit) (fun (r : Int64) (u : Unit) => r = 1841546) G (fun u => []) A) (by decide) (Nat.le_of_ble_eq_true rfl) ?_
  intro p e s m below meth c hx hb hr hml hown hT hlocks hin hK A hA hE hP hD hS ls hl
  have hown : s.vm.findClass "LieClockModel" = some m.cls := hown
  have hl : lv_has ls 7 [(0, .int 99), (1, .int 108), (2, .int 111), (3, .int 99), (4, .int 107), (5, .int 0), (6, .int 0)] := hl
  refine lv_lconst (v := 0) hx hb dX12_word_0 (by decide) ?_
  refine lv_iload_n hx hb dX12_word_1 rfl (lv_at hl 0 rfl) ?_
  refine kc_l (W1 := []) (wr := []) [] [] rfl rfl (by decide) (by decide) hP hD hS hA (va_runS (As := [.long 0, .int 99]) (rest := []) ⟨hx, hb, hml, hown, hT⟩ (zcX12_appends_33 l G cy ev _ ) (va_cwS 2 hT (good_S tb_1373 tb_1371 tb_1372 tb_122) rfl rfl rfl (by decide +kernel) ⟨Nat.le_of_ble_eq_true rfl, Nat.le_of_ble_eq_true rfl⟩) (PB.preS hK hE hS hA hP hD [] rfl (by decide)) rfl rfl hl.1 rfl (lv_room (Nat.le_of_ble_eq_true rfl)) dX12_word_2 ⟨Nat.le_of_ble_eq_true rfl, Nat.le_of_ble_eq_true rfl⟩) (fun r u H locs hw hP hD hS => ?_)
  obtain rfl : r = 3 := hw
  obtain ⟨hP, hD⟩ : PD G A [] H := ⟨hP, hD⟩
  refine lv_iload_n hx hb dX12_word_5 rfl (lv_at hl 1 rfl) ?_
  refine kc_l (W1 := []) (wr := []) [] [] rfl rfl (by decide) (by decide) hP hD hS hA (va_runS (As := [.long 3, .int 108]) (rest := []) ⟨hx, hb, hml, hown, hT⟩ (zcX12_appends_48 l G cy ev _ ) (va_cwS 2 hT (good_S tb_1373 tb_1371 tb_1372 tb_122) rfl rfl rfl (by decide +kernel) ⟨Nat.le_of_ble_eq_true rfl, Nat.le_of_ble_eq_true rfl⟩) (PB.preS hK hE hS hA hP hD [] rfl (by decide)) rfl rfl hl.1 rfl (lv_room (Nat.le_of_ble_eq_true rfl)) dX12_word_6 ⟨Nat.le_of_ble_eq_true rfl, Nat.le_of_ble_eq_true rfl⟩) (fun r u H locs hw hP hD hS => ?_)
  obtain rfl : r = 93 := hw
  obtain ⟨hP, hD⟩ : PD G A [] H := ⟨hP, hD⟩
  refine lv_iload_n hx hb dX12_word_9 rfl (lv_at hl 2 rfl) ?_
  refine kc_l (W1 := []) (wr := []) [] [] rfl rfl (by decide) (by decide) hP hD hS hA (va_runS (As := [.long 93, .int 111]) (rest := []) ⟨hx, hb, hml, hown, hT⟩ (zcX12_appends_49 l G cy ev _ ) (va_cwS 2 hT (good_S tb_1373 tb_1371 tb_1372 tb_122) rfl rfl rfl (by decide +kernel) ⟨Nat.le_of_ble_eq_true rfl, Nat.le_of_ble_eq_true rfl⟩) (PB.preS hK hE hS hA hP hD [] rfl (by decide)) rfl rfl hl.1 rfl (lv_room (Nat.le_of_ble_eq_true rfl)) dX12_word_10 ⟨Nat.le_of_ble_eq_true rfl, Nat.le_of_ble_eq_true rfl⟩) (fun r u H locs hw hP hD hS => ?_)
  obtain rfl : r = 2526 := hw
  obtain ⟨hP, hD⟩ : PD G A [] H := ⟨hP, hD⟩
  refine lv_iload_n hx hb dX12_word_13 rfl (lv_at hl 3 rfl) ?_
  refine kc_l (W1 := []) (wr := []) [] [] rfl rfl (by decide) (by decide) hP hD hS hA (va_runS (As := [.long 2526, .int 99]) (rest := []) ⟨hx, hb, hml, hown, hT⟩ (zcX12_appends_50 l G cy ev _ ) (va_cwS 2 hT (good_S tb_1373 tb_1371 tb_1372 tb_122) rfl rfl rfl (by decide +kernel) ⟨Nat.le_of_ble_eq_true rfl, Nat.le_of_ble_eq_true rfl⟩) (PB.preS hK hE hS hA hP hD [] rfl (by decide)) rfl rfl hl.1 rfl (lv_room (Nat.le_of_ble_eq_true rfl)) dX12_word_14 ⟨Nat.le_of_ble_eq_true rfl, Nat.le_of_ble_eq_true rfl⟩) (fun r u H locs hw hP hD hS => ?_)
  obtain rfl : r = 68205 := hw
  obtain ⟨hP, hD⟩ : PD G A [] H := ⟨hP, hD⟩
  refine lv_iload hx hb dX12_word_17 (lv_at hl 4 rfl) ?_
  refine kc_l (W1 := []) (wr := []) [] [] rfl rfl (by decide) (by decide) hP hD hS hA (va_runS (As := [.long 68205, .int 107]) (rest := []) ⟨hx, hb, hml, hown, hT⟩ (zcX12_appends_51 l G cy ev _ ) (va_cwS 2 hT (good_S tb_1373 tb_1371 tb_1372 tb_122) rfl rfl rfl (by decide +kernel) ⟨Nat.le_of_ble_eq_true rfl, Nat.le_of_ble_eq_true rfl⟩) (PB.preS hK hE hS hA hP hD [] rfl (by decide)) rfl rfl hl.1 rfl (lv_room (Nat.le_of_ble_eq_true rfl)) dX12_word_19 ⟨Nat.le_of_ble_eq_true rfl, Nat.le_of_ble_eq_true rfl⟩) (fun r u H locs hw hP hD hS => ?_)
  obtain rfl : r = 1841546 := hw
  obtain ⟨hP, hD⟩ : PD G A [] H := ⟨hP, hD⟩
  refine lv_iload hx hb dX12_word_22 (lv_at hl 5 rfl) ?_
  refine kc_l (W1 := []) (wr := []) [] [] rfl rfl (by decide) (by decide) hP hD hS hA (va_runS (As := [.long 1841546, .int 0]) (rest := []) ⟨hx, hb, hml, hown, hT⟩ (zcX12_appends_52 l G cy ev _ ) (va_cwS 2 hT (good_S tb_1373 tb_1371 tb_1372 tb_122) rfl rfl rfl (by decide +kernel) ⟨Nat.le_of_ble_eq_true rfl, Nat.le_of_ble_eq_true rfl⟩) (PB.preS hK hE hS hA hP hD [] rfl (by decide)) rfl rfl hl.1 rfl (lv_room (Nat.le_of_ble_eq_true rfl)) dX12_word_24 ⟨Nat.le_of_ble_eq_true rfl, Nat.le_of_ble_eq_true rfl⟩) (fun r u H locs hw hP hD hS => ?_)
  obtain rfl : r = 1841546 := hw
  obtain ⟨hP, hD⟩ : PD G A [] H := ⟨hP, hD⟩
  refine lv_iload hx hb dX12_word_27 (lv_at hl 6 rfl) ?_
  refine kc_l (W1 := []) (wr := []) [] [] rfl rfl (by decide) (by decide) hP hD hS hA (va_runS (As := [.long 1841546, .int 0]) (rest := []) ⟨hx, hb, hml, hown, hT⟩ (zcX12_appends_52 l G cy ev _ ) (va_cwS 2 hT (good_S tb_1373 tb_1371 tb_1372 tb_122) rfl rfl rfl (by decide +kernel) ⟨Nat.le_of_ble_eq_true rfl, Nat.le_of_ble_eq_true rfl⟩) (PB.preS hK hE hS hA hP hD [] rfl (by decide)) rfl rfl hl.1 rfl (lv_room (Nat.le_of_ble_eq_true rfl)) dX12_word_29 ⟨Nat.le_of_ble_eq_true rfl, Nat.le_of_ble_eq_true rfl⟩) (fun r u H locs hw hP hD hS => ?_)
  obtain rfl : r = 1841546 := hw
  obtain ⟨hP, hD⟩ : PD G A [] H := ⟨hP, hD⟩
  exact kr_l hx hb hr hlocks hP hD hS (u := (() : Unit)) rfl [] rfl (by decide) (Nat.le_of_ble_eq_true rfl) (Nat.le_of_ble_eq_true rfl) dX12_word_32

set_option maxRecDepth 100000 in
set_option maxHeartbeats 4000000 in
theorem zcX12_appends_53 (l : Launch) (G : va_G) (cy : Nat → ClassId) (ev : Ev) (sz : Nat)   : Met l yX12_appends (WS yX12_appends cX12_appends 3 (some .long)) { frames := 0, cells := 0, slots := 0, locals := 0 } (PB [.long 15, .int 114] sz G cy ev []) (QBl (S := Unit) (fun (r : Int64) (u : Unit) => r = 423) G (fun u => []) (va_A [] sz)) 0 0 (va_A [] sz) := by
  refine met_of (y := yX12_appends) (L := 3) (av := [.long 15, .int 114]) (Qc := fun A => QBl (S := Unit) (fun (r : Int64) (u : Unit) => r = 423) G (fun u => []) A) (by decide) (Nat.le_of_ble_eq_true rfl) ?_
  intro p e s m below meth c hx hb hr hml hown hT hlocks hin hK A hA hE hP hD hS ls hl
  have hown : s.vm.findClass "LieClockModel" = some m.cls := hown
  have hl : lv_has ls 3 [(0, .long 15), (2, .int 114)] := hl
  refine lv_iload_n hx hb dX12_appends_0 rfl (lv_at hl 1 rfl) ?_
  refine lv_if_ne (tgt := 8) hx hb dX12_appends_1 (by decide) (fun _ => ?_) (fun c => absurd c (by decide))
  refine lv_ldc2 (v := 27) hx hb hown (hT _ tb_1374) dX12_appends_8 ?_
  refine lv_lload_n hx hb dX12_appends_11 rfl (lv_at hl 0 rfl) ?_
  refine kx_lmul (v := 405) hx hb dX12_appends_12 (by decide) ?_
  refine lv_iload_n hx hb dX12_appends_13 rfl (lv_at hl 1 rfl) ?_
  refine lv_bipush (v := 97) hx hb dX12_appends_14 (by decide) ?_
  refine kx_isub (v := 17) hx hb dX12_appends_16 (by decide) ?_
  refine lv_iconst (v := 1) hx hb dX12_appends_17 (by decide) ?_
  refine kx_iadd (v := 18) hx hb dX12_appends_18 (by decide) ?_
  refine lv_i2l (v := 18) hx hb dX12_appends_19 (by decide) ?_
  refine kx_ladd (v := 423) hx hb dX12_appends_20 (by decide) ?_
  exact kr_l hx hb hr hlocks hP hD hS (u := (() : Unit)) rfl [] rfl (by decide) (Nat.le_of_ble_eq_true rfl) (Nat.le_of_ble_eq_true rfl) dX12_appends_21
