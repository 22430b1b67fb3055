set_option maxRecDepth 100000 in
set_option maxHeartbeats 4000000 in
theorem zcX12_appends_54 (l : Launch) (G : va_G) (cy : Nat → ClassId) (ev : Ev) (sz : Nat)   : Met l yX12_appends (WS yX12_appends cX12_appends 3 (some .long)) { frames := 0, cells := 0, slots := 0, locals := 0 } (PB [.long 423, .int 0] sz G cy ev []) (QBl (S := Unit) (fun (r : Int64) (u : Unit) => r = 423) G (fun u => []) (va_A [] sz)) 0 0 (va_A [] sz) := by
  refine met_of (y := yX12_appends) (L := 3) (av := [.long 423, .int 0]) (Qc := fun A => QBl (S := Unit) (fun (r : Int64) (u : Unit) => r = 423) G (fun u => []) A) (by decide) (Nat.le_of_ble_eq_true rfl) ?_
  intro p e s m below meth c hx hb hr hml hown hT hlocks hin hK A hA hE hP hD hS ls hl
  have hown : s.vm.findClass "LieClockModel" = some m.cls := hown
  have hl : lv_has ls 3 [(0, .long 423), (2, .int 0)] := hl
  refine lv_iload_n hx hb dX12_appends_0 rfl (lv_at hl 1 rfl) ?_
  refine lv_if_ne (tgt := 8) hx hb dX12_appends_1 (by decide) (fun c => absurd (by decide) c) (fun _ => ?_)
  refine lv_lload_n hx hb dX12_appends_4 rfl (lv_at hl 0 rfl) ?_
  refine lv_goto (tgt := 21) hx hb dX12_appends_5 (by decide) ?_
  exact kr_l hx hb hr hlocks hP hD hS (u := (() : Unit)) rfl [] rfl (by decide) (Nat.le_of_ble_eq_true rfl) (Nat.le_of_ble_eq_true rfl) dX12_appends_21

set_option maxRecDepth 100000 in
set_option maxHeartbeats 4000000 in
theorem zcX12_word_11 (l : Launch) (G : va_G) (cy : Nat → ClassId) (ev : Ev) (sz : Nat)   : Met l yX12_word (WS yX12_word cX12_word 7 (some .long)) { frames := 1, cells := 0, slots := 0, locals := 22 } (PB [.int 111, .int 114, .int 0, .int 0, .int 0, .int 0, .int 0] sz G cy ev []) (QBl (S := Unit) (fun (r : Int64) (u : Unit) => r = 423) G (fun u => []) (va_A [] sz)) 0 0 (va_A [] sz) := by
  refine met_of (y := yX12_word) (L := 7) (av := [.int 111, .int 114, .int 0, .int 0, .int 0, .int 0, .int 0]) (Qc := fun A => QBl (S := Unit) (fun (r : Int64) (u : Unit) => r = 423) G (fun u => []) A) (by decide) (Nat.le_of_ble_eq_true rfl) ?_
  intro p e s m below meth c hx hb hr hml hown hT hlocks hin hK A hA hE hP hD hS ls hl
  have hown : s.vm.findClass "LieClockModel" = some m.cls := hown
  have hl : lv_has ls 7 [(0, .int 111), (1, .int 114), (2, .int 0), (3, .int 0), (4, .int 0), (5, .int 0), (6, .int 0)] := hl
  refine lv_lconst (v := 0) hx hb dX12_word_0 (by decide) ?_
  refine lv_iload_n hx hb dX12_word_1 rfl (lv_at hl 0 rfl) ?_
  refine kc_l (W1 := []) (wr := []) [] [] rfl rfl (by decide) (by decide) hP hD hS hA (va_runS (As := [.long 0, .int 111]) (rest := []) ⟨hx, hb, hml, hown, hT⟩ (zcX12_appends_12 l G cy ev _ ) (va_cwS 2 hT (good_S tb_1373 tb_1371 tb_1372 tb_122) rfl rfl rfl (by decide +kernel) ⟨Nat.le_of_ble_eq_true rfl, Nat.le_of_ble_eq_true rfl⟩) (PB.preS hK hE hS hA hP hD [] rfl (by decide)) rfl rfl hl.1 rfl (lv_room (Nat.le_of_ble_eq_true rfl)) dX12_word_2 ⟨Nat.le_of_ble_eq_true rfl, Nat.le_of_ble_eq_true rfl⟩) (fun r u H locs hw hP hD hS => ?_)
  obtain rfl : r = 15 := hw
  obtain ⟨hP, hD⟩ : PD G A [] H := ⟨hP, hD⟩
  refine lv_iload_n hx hb dX12_word_5 rfl (lv_at hl 1 rfl) ?_
  refine kc_l (W1 := []) (wr := []) [] [] rfl rfl (by decide) (by decide) hP hD hS hA (va_runS (As := [.long 15, .int 114]) (rest := []) ⟨hx, hb, hml, hown, hT⟩ (zcX12_appends_53 l G cy ev _ ) (va_cwS 2 hT (good_S tb_1373 tb_1371 tb_1372 tb_122) rfl rfl rfl (by decide +kernel) ⟨Nat.le_of_ble_eq_true rfl, Nat.le_of_ble_eq_true rfl⟩) (PB.preS hK hE hS hA hP hD [] rfl (by decide)) rfl rfl hl.1 rfl (lv_room (Nat.le_of_ble_eq_true rfl)) dX12_word_6 ⟨Nat.le_of_ble_eq_true rfl, Nat.le_of_ble_eq_true rfl⟩) (fun r u H locs hw hP hD hS => ?_)
  obtain rfl : r = 423 := hw
  obtain ⟨hP, hD⟩ : PD G A [] H := ⟨hP, hD⟩
  refine lv_iload_n hx hb dX12_word_9 rfl (lv_at hl 2 rfl) ?_
  refine kc_l (W1 := []) (wr := []) [] [] rfl rfl (by decide) (by decide) hP hD hS hA (va_runS (As := [.long 423, .int 0]) (rest := []) ⟨hx, hb, hml, hown, hT⟩ (zcX12_appends_54 l G cy ev _ ) (va_cwS 2 hT (good_S tb_1373 tb_1371 tb_1372 tb_122) rfl rfl rfl (by decide +kernel) ⟨Nat.le_of_ble_eq_true rfl, Nat.le_of_ble_eq_true rfl⟩) (PB.preS hK hE hS hA hP hD [] rfl (by decide)) rfl rfl hl.1 rfl (lv_room (Nat.le_of_ble_eq_true rfl)) dX12_word_10 ⟨Nat.le_of_ble_eq_true rfl, Nat.le_of_ble_eq_true rfl⟩) (fun r u H locs hw hP hD hS => ?_)
  obtain rfl : r = 423 := hw
  obtain ⟨hP, hD⟩ : PD G A [] H := ⟨hP, hD⟩
  refine lv_iload_n hx hb dX12_word_13 rfl (lv_at hl 3 rfl) ?_
  refine kc_l (W1 := []) (wr := []) [] [] rfl rfl (by decide) (by decide) hP hD hS hA (va_runS (As := [.long 423, .int 0]) (rest := []) ⟨hx, hb, hml, hown, hT⟩ (zcX12_appends_54 l G cy ev _ ) (va_cwS 2 hT (good_S tb_1373 tb_1371 tb_1372 tb_122) rfl rfl rfl (by decide +kernel) ⟨Nat.le_of_ble_eq_true rfl, Nat.le_of_ble_eq_true rfl⟩) (PB.preS hK hE hS hA hP hD [] rfl (by decide)) rfl rfl hl.1 rfl (lv_room (Nat.le_of_ble_eq_true rfl)) dX12_word_14 ⟨Nat.le_of_ble_eq_true rfl, Nat.le_of_ble_eq_true rfl⟩) (fun r u H locs hw hP hD hS => ?_)
  obtain rfl : r = 423 := hw
  obtain ⟨hP, hD⟩ : PD G A [] H := ⟨hP, hD⟩
  refine lv_iload hx hb dX12_word_17 (lv_at hl 4 rfl) ?_
  refine kc_l (W1 := []) (wr := []) [] [] rfl rfl (by decide) (by decide) hP hD hS hA (va_runS (As := [.long 423, .int 0]) (rest := []) ⟨hx, hb, hml, hown, hT⟩ (zcX12_appends_54 l G cy ev _ ) (va_cwS 2 hT (good_S tb_1373 tb_1371 tb_1372 tb_122) rfl rfl rfl (by decide +kernel) ⟨Nat.le_of_ble_eq_true rfl, Nat.le_of_ble_eq_true rfl⟩) (PB.preS hK hE hS hA hP hD [] rfl (by decide)) rfl rfl hl.1 rfl (lv_room (Nat.le_of_ble_eq_true rfl)) dX12_word_19 ⟨Nat.le_of_ble_eq_true rfl, Nat.le_of_ble_eq_true rfl⟩) (fun r u H locs hw hP hD hS => ?_)
  obtain rfl : r = 423 := hw
  obtain ⟨hP, hD⟩ : PD G A [] H := ⟨hP, hD⟩
  refine lv_iload hx hb dX12_word_22 (lv_at hl 5 rfl) ?_
  refine kc_l (W1 := []) (wr := []) [] [] rfl rfl (by decide) (by decide) hP hD hS hA (va_runS (As := [.long 423, .int 0]) (rest := []) ⟨hx, hb, hml, hown, hT⟩ (zcX12_appends_54 l G cy ev _ ) (va_cwS 2 hT (good_S tb_1373 tb_1371 tb_1372 tb_122) rfl rfl rfl (by decide +kernel) ⟨Nat.le_of_ble_eq_true rfl, Nat.le_of_ble_eq_true rfl⟩) (PB.preS hK hE hS hA hP hD [] rfl (by decide)) rfl rfl hl.1 rfl (lv_room (Nat.le_of_ble_eq_true rfl)) dX12_word_24 ⟨Nat.le_of_ble_eq_true rfl, Nat.le_of_ble_eq_true rfl⟩) (fun r u H locs hw hP hD hS => ?_)
  obtain rfl : r = 423 := hw
  obtain ⟨hP, hD⟩ : PD G A [] H := ⟨hP, hD⟩
  refine lv_iload hx hb dX12_word_27 (lv_at hl 6 rfl) ?_
  refine kc_l (W1 := []) (wr := []) [] [] rfl rfl (by decide) (by decide) hP hD hS hA (va_runS (As := [.long 423, .int 0]) (rest := []) ⟨hx, hb, hml, hown, hT⟩ (zcX12_appends_54 l G cy ev _ ) (va_cwS 2 hT (good_S tb_1373 tb_1371 tb_1372 tb_122) rfl rfl rfl (by decide +kernel) ⟨Nat.le_of_ble_eq_true rfl, Nat.le_of_ble_eq_true rfl⟩) (PB.preS hK hE hS hA hP hD [] rfl (by decide)) rfl rfl hl.1 rfl (lv_room (Nat.le_of_ble_eq_true rfl)) dX12_word_29 ⟨Nat.le_of_ble_eq_true rfl, Nat.le_of_ble_eq_true rfl⟩) (fun r u H locs hw hP hD hS => ?_)
  obtain rfl : r = 423 := hw
  obtain ⟨hP, hD⟩ : PD G A [] H := ⟨hP, hD⟩
  exact kr_l hx hb hr hlocks hP hD hS (u := (() : Unit)) rfl [] rfl (by decide) (Nat.le_of_ble_eq_true rfl) (Nat.le_of_ble_eq_true rfl) dX12_word_32

set_option maxRecDepth 100000 in
set_option maxHeartbeats 4000000 in
theorem zcX12_appends_55 (l : Launch) (G : va_G) (cy : Nat → ClassId) (ev : Ev) (sz : Nat)   : Met l yX12_appends (WS yX12_appends cX12_appends 3 (some .long)) { frames := 0, cells := 0, slots := 0, locals := 0 } (PB [.long 0, .int 97] sz G cy ev []) (QBl (S := Unit) (fun (r : Int64) (u : Unit) => r = 1) G (fun u => []) (va_A [] sz)) 0 0 (va_A [] sz) := by
  refine met_of (y := yX12_appends) (L := 3) (av := [.long 0, .int 97]) (Qc := fun A => QBl (S := Unit) (fun (r : Int64) (u : Unit) => r = 1) G (fun u => []) A) (by decide) (Nat.le_of_ble_eq_true rfl) ?_
  intro p e s m below meth c hx hb hr hml hown hT hlocks hin hK A hA hE hP hD hS ls hl
  have hown : s.vm.findClass "LieClockModel" = some m.cls := hown
  have hl : lv_has ls 3 [(0, .long 0), (2, .int 97)] := hl
  refine lv_iload_n hx hb dX12_appends_0 rfl (lv_at hl 1 rfl) ?_
  refine lv_if_ne (tgt := 8) hx hb dX12_appends_1 (by decide) (fun _ => ?_) (fun c => absurd c (by decide))
  refine lv_ldc2 (v := 27) hx hb hown (hT _ tb_1374) dX12_appends_8 ?_
  refine lv_lload_n hx hb dX12_appends_11 rfl (lv_at hl 0 rfl) ?_
  refine kx_lmul (v := 0) hx hb dX12_appends_12 (by decide) ?_
  refine lv_iload_n hx hb dX12_appends_13 rfl (lv_at hl 1 rfl) ?_
  refine lv_bipush (v := 97) hx hb dX12_appends_14 (by decide) ?_
  refine kx_isub (v := 0) hx hb dX12_appends_16 (by decide) ?_
  refine lv_iconst (v := 1) hx hb dX12_appends_17 (by decide) ?_
  refine kx_iadd (v := 1) hx hb dX12_appends_18 (by decide) ?_
  refine lv_i2l (v := 1) hx hb dX12_appends_19 (by decide) ?_
  refine kx_ladd (v := 1) hx hb dX12_appends_20 (by decide) ?_
  exact kr_l hx hb hr hlocks hP hD hS (u := (() : Unit)) rfl [] rfl (by decide) (Nat.le_of_ble_eq_true rfl) (Nat.le_of_ble_eq_true rfl) dX12_appends_21

set_option maxRecDepth 100000 in
set_option maxHeartbeats 4000000 in
theorem zcX12_appends_56 (l : Launch) (G : va_G) (cy : Nat → ClassId) (ev : Ev) (sz : Nat)   : Met l yX12_appends (WS yX12_appends cX12_appends 3 (some .long)) { frames := 0, cells := 0, slots := 0, locals := 0 } (PB [.long 1, .int 110] sz G cy ev []) (QBl (S := Unit) (fun (r : Int64) (u : Unit) => r = 41) G (fun u => []) (va_A [] sz)) 0 0 (va_A [] sz) := by
  refine met_of (y := yX12_appends) (L := 3) (av := [.long 1, .int 110]) (Qc := fun A => QBl (S := Unit) (fun (r : Int64) (u : Unit) => r = 41) G (fun u => []) A) (by decide) (Nat.le_of_ble_eq_true rfl) ?_
  intro p e s m below meth c hx hb hr hml hown hT hlocks hin hK A hA hE hP hD hS ls hl
  have hown : s.vm.findClass "LieClockModel" = some m.cls := hown
  have hl : lv_has ls 3 [(0, .long 1), (2, .int 110)] := hl
  refine lv_iload_n hx hb dX12_appends_0 rfl (lv_at hl 1 rfl) ?_
  refine lv_if_ne (tgt := 8) hx hb dX12_appends_1 (by decide) (fun _ => ?_) (fun c => absurd c (by decide))
  refine lv_ldc2 (v := 27) hx hb hown (hT _ tb_1374) dX12_appends_8 ?_
  refine lv_lload_n hx hb dX12_appends_11 rfl (lv_at hl 0 rfl) ?_
  refine kx_lmul (v := 27) hx hb dX12_appends_12 (by decide) ?_
  refine lv_iload_n hx hb dX12_appends_13 rfl (lv_at hl 1 rfl) ?_
  refine lv_bipush (v := 97) hx hb dX12_appends_14 (by decide) ?_
  refine kx_isub (v := 13) hx hb dX12_appends_16 (by decide) ?_
  refine lv_iconst (v := 1) hx hb dX12_appends_17 (by decide) ?_
  refine kx_iadd (v := 14) hx hb dX12_appends_18 (by decide) ?_
  refine lv_i2l (v := 14) hx hb dX12_appends_19 (by decide) ?_
  refine kx_ladd (v := 41) hx hb dX12_appends_20 (by decide) ?_
  exact kr_l hx hb hr hlocks hP hD hS (u := (() : Unit)) rfl [] rfl (by decide) (Nat.le_of_ble_eq_true rfl) (Nat.le_of_ble_eq_true rfl) dX12_appends_21

set_option maxRecDepth 100000 in
set_option maxHeartbeats 4000000 in
theorem zcX12_appends_57 (l : Launch) (G : va_G) (cy : Nat → ClassId) (ev : Ev) (sz : Nat)   : Met l yX12_appends (WS yX12_appends cX12_appends 3 (some .long)) { frames := 0, cells := 0, slots := 0, locals := 0 } (PB [.long 41, .int 100] sz G cy ev []) (QBl (S := Unit) (fun (r : Int64) (u : Unit) => r = 1111) G (fun u => []) (va_A [] sz)) 0 0 (va_A [] sz) := by
  refine met_of (y := yX12_appends) (L := 3) (av := [.long 41, .int 100]) (Qc := fun A => QBl (S := Unit) (fun (r : Int64) (u : Unit) => r = 1111) G (fun u => []) A) (by decide) (Nat.le_of_ble_eq_true rfl) ?_
  intro p e s m below meth c hx hb hr hml hown hT hlocks hin hK A hA hE hP hD hS ls hl
  have hown : s.vm.findClass "LieClockModel" = some m.cls := hown
  have hl : lv_has ls 3 [(0, .long 41), (2, .int 100)] := hl
  refine lv_iload_n hx hb dX12_appends_0 rfl (lv_at hl 1 rfl) ?_
  refine lv_if_ne (tgt := 8) hx hb dX12_appends_1 (by decide) (fun _ => ?_) (fun c => absurd c (by decide))
  refine lv_ldc2 (v := 27) hx hb hown (hT _ tb_1374) dX12_appends_8 ?_
  refine lv_lload_n hx hb dX12_appends_11 rfl (lv_at hl 0 rfl) ?_
  refine kx_lmul (v := 1107) hx hb dX12_appends_12 (by decide) ?_
  refine lv_iload_n hx hb dX12_appends_13 rfl (lv_at hl 1 rfl) ?_
  refine lv_bipush (v := 97) hx hb dX12_appends_14 (by decide) ?_
  refine kx_isub (v := 3) hx hb dX12_appends_16 (by decide) ?_
  refine lv_iconst (v := 1) hx hb dX12_appends_17 (by decide) ?_
  refine kx_iadd (v := 4) hx hb dX12_appends_18 (by decide) ?_
  refine lv_i2l (v := 4) hx hb dX12_appends_19 (by decide) ?_
  refine kx_ladd (v := 1111) hx hb dX12_appends_20 (by decide) ?_
  exact kr_l hx hb hr hlocks hP hD hS (u := (() : Unit)) rfl [] rfl (by decide) (Nat.le_of_ble_eq_true rfl) (Nat.le_of_ble_eq_true rfl) dX12_appends_21

set_option maxRecDepth 100000 in
set_option maxHeartbeats 4000000 in
theorem zcX12_appends_58 (l : Launch) (G : va_G) (cy : Nat → ClassId) (ev : Ev) (sz : Nat)   : Met l yX12_appends (WS yX12_appends cX12_appends 3 (some .long)) { frames := 0, cells := 0, slots := 0, locals := 0 } (PB [.long 1111, .int 0] sz G cy ev []) (QBl (S := Unit) (fun (r : Int64) (u : Unit) => r = 1111) G (fun u => []) (va_A [] sz)) 0 0 (va_A [] sz) := by
  refine met_of (y := yX12_appends) (L := 3) (av := [.long 1111, .int 0]) (Qc := fun A => QBl (S := Unit) (fun (r : Int64) (u : Unit) => r = 1111) G (fun u => []) A) (by decide) (Nat.le_of_ble_eq_true rfl) ?_
  intro p e s m below meth c hx hb hr hml hown hT hlocks hin hK A hA hE hP hD hS ls hl
  have hown : s.vm.findClass "LieClockModel" = some m.cls := hown
  have hl : lv_has ls 3 [(0, .long 1111), (2, .int 0)] := hl
  refine lv_iload_n hx hb dX12_appends_0 rfl (lv_at hl 1 rfl) ?_
  refine lv_if_ne (tgt := 8) hx hb dX12_appends_1 (by decide) (fun c => absurd (by decide) c) (fun _ => ?_)
  refine lv_lload_n hx hb dX12_appends_4 rfl (lv_at hl 0 rfl) ?_
  refine lv_goto (tgt := 21) hx hb dX12_appends_5 (by decide) ?_
  exact kr_l hx hb hr hlocks hP hD hS (u := (() : Unit)) rfl [] rfl (by decide) (Nat.le_of_ble_eq_true rfl) (Nat.le_of_ble_eq_true rfl) dX12_appends_21

set_option maxRecDepth 100000 in
set_option maxHeartbeats 4000000 in
theorem zcX12_word_12 (l : Launch) (G : va_G) (cy : Nat → ClassId) (ev : Ev) (sz : Nat)   : Met l yX12_word (WS yX12_word cX12_word 7 (some .long)) { frames := 1, cells := 0, slots := 0, locals := 22 } (PB [.int 97, .int 110, .int 100, .int 0, .int 0, .int 0, .int 0] sz G cy ev []) (QBl (S := Unit) (fun (r : Int64) (u : Unit) => r = 1111) G (fun u => []) (va_A [] sz)) 0 0 (va_A [] sz) := by
  refine met_of (y := yX12_word) (L := 7) (av := [.int 97, .int 110, .int 100, .int 0, .int 0, .int 0, .int 0]) (Qc := fun A => QBl (S := Unit) (fun (r : Int64) (u : Unit) => r = 1111) G (fun u => []) A) (by decide) (Nat.le_of_ble_eq_true rfl) ?_
  intro p e s m below meth c hx hb hr hml hown hT hlocks hin hK A hA hE hP hD hS ls hl
  have hown : s.vm.findClass "LieClockModel" = some m.cls := hown
  have hl : lv_has ls 7 [(0, .int 97), (1, .int 110), (2, .int 100), (3, .int 0), (4, .int 0), (5, .int 0), (6, .int 0)] := hl
  refine lv_lconst (v := 0) hx hb dX12_word_0 (by decide) ?_
  refine lv_iload_n hx hb dX12_word_1 rfl (lv_at hl 0 rfl) ?_
  refine kc_l (W1 := []) (wr := []) [] [] rfl rfl (by decide) (by decide) hP hD hS hA (va_runS (As := [.long 0, .int 97]) (rest := []) ⟨hx, hb, hml, hown, hT⟩ (zcX12_appends_55 l G cy ev _ ) (va_cwS 2 hT (good_S tb_1373 tb_1371 tb_1372 tb_122) rfl rfl rfl (by decide +kernel) ⟨Nat.le_of_ble_eq_true rfl, Nat.le_of_ble_eq_true rfl⟩) (PB.preS hK hE hS hA hP hD [] rfl (by decide)) rfl rfl hl.1 rfl (lv_room (Nat.le_of_ble_eq_true rfl)) dX12_word_2 ⟨Nat.le_of_ble_eq_true rfl, Nat.le_of_ble_eq_true rfl⟩) (fun r u H locs hw hP hD hS => ?_)
  obtain rfl : r = 1 := hw
  obtain ⟨hP, hD⟩ : PD G A [] H := ⟨hP, hD⟩
  refine lv_iload_n hx hb dX12_word_5 rfl (lv_at hl 1 rfl) ?_
  refine kc_l (W1 := []) (wr := []) [] [] rfl rfl (by decide) (by decide) hP hD hS hA (va_runS (As := [.long 1, .int 110]) (rest := []) ⟨hx, hb, hml, hown, hT⟩ (zcX12_appends_56 l G cy ev _ ) (va_cwS 2 hT (good_S tb_1373 tb_1371 tb_1372 tb_122) rfl rfl rfl (by decide +kernel) ⟨Nat.le_of_ble_eq_true rfl, Nat.le_of_ble_eq_true rfl⟩) (PB.preS hK hE hS hA hP hD [] rfl (by decide)) rfl rfl hl.1 rfl (lv_room (Nat.le_of_ble_eq_true rfl)) dX12_word_6 ⟨Nat.le_of_ble_eq_true rfl, Nat.le_of_ble_eq_true rfl⟩) (fun r u H locs hw hP hD hS => ?_)
  obtain rfl : r = 41 := hw
  obtain ⟨hP, hD⟩ : PD G A [] H := ⟨hP, hD⟩
  refine lv_iload_n hx hb dX12_word_9 rfl (lv_at hl 2 rfl) ?_
  refine kc_l (W1 := []) (wr := []) [] [] rfl rfl (by decide) (by decide) hP hD hS hA (va_runS (As := [.long 41, .int 100]) (rest := []) ⟨hx, hb, hml, hown, hT⟩ (zcX12_appends_57 l G cy ev _ ) (va_cwS 2 hT (good_S tb_1373 tb_1371 tb_1372 tb_122) rfl rfl rfl (by decide +kernel) ⟨Nat.le_of_ble_eq_true rfl, Nat.le_of_ble_eq_true rfl⟩) (PB.preS hK hE hS hA hP hD [] rfl (by decide)) rfl rfl hl.1 rfl (lv_room (Nat.le_of_ble_eq_true rfl)) dX12_word_10 ⟨Nat.le_of_ble_eq_true rfl, Nat.le_of_ble_eq_true rfl⟩) (fun r u H locs hw hP hD hS => ?_)
  obtain rfl : r = 1111 := hw
  obtain ⟨hP, hD⟩ : PD G A [] H := ⟨hP, hD⟩
  refine lv_iload_n hx hb dX12_word_13 rfl (lv_at hl 3 rfl) ?_
  refine kc_l (W1 := []) (wr := []) [] [] rfl rfl (by decide) (by decide) hP hD hS hA (va_runS (As := [.long 1111, .int 0]) (rest := []) ⟨hx, hb, hml, hown, hT⟩ (zcX12_appends_58 l G cy ev _ ) (va_cwS 2 hT (good_S tb_1373 tb_1371 tb_1372 tb_122) rfl rfl rfl (by decide +kernel) ⟨Nat.le_of_ble_eq_true rfl, Nat.le_of_ble_eq_true rfl⟩) (PB.preS hK hE hS hA hP hD [] rfl (by decide)) rfl rfl hl.1 rfl (lv_room (Nat.le_of_ble_eq_true rfl)) dX12_word_14 ⟨Nat.le_of_ble_eq_true rfl, Nat.le_of_ble_eq_true rfl⟩) (fun r u H locs hw hP hD hS => ?_)
  obtain rfl : r = 1111 := hw
  obtain ⟨hP, hD⟩ : PD G A [] H := ⟨hP, hD⟩
  refine lv_iload hx hb dX12_word_17 (lv_at hl 4 rfl) ?_
  refine kc_l (W1 := []) (wr := []) [] [] rfl rfl (by decide) (by decide) hP hD hS hA (va_runS (As := [.long 1111, .int 0]) (rest := []) ⟨hx, hb, hml, hown, hT⟩ (zcX12_appends_58 l G cy ev _ ) (va_cwS 2 hT (good_S tb_1373 tb_1371 tb_1372 tb_122) rfl rfl rfl (by decide +kernel) ⟨Nat.le_of_ble_eq_true rfl, Nat.le_of_ble_eq_true rfl⟩) (PB.preS hK hE hS hA hP hD [] rfl (by decide)) rfl rfl hl.1 rfl (lv_room (Nat.le_of_ble_eq_true rfl)) dX12_word_19 ⟨Nat.le_of_ble_eq_true rfl, Nat.le_of_ble_eq_true rfl⟩) (fun r u H locs hw hP hD hS => ?_)
  obtain rfl : r = 1111 := hw
  obtain ⟨hP, hD⟩ : PD G A [] H := ⟨hP, hD⟩
  refine lv_iload hx hb dX12_word_22 (lv_at hl 5 rfl) ?_
  refine kc_l (W1 := []) (wr := []) [] [] rfl rfl (by decide) (by decide) hP hD hS hA (va_runS (As := [.long 1111, .int 0]) (rest := []) ⟨hx, hb, hml, hown, hT⟩ (zcX12_appends_58 l G cy ev _ ) (va_cwS 2 hT (good_S tb_1373 tb_1371 tb_1372 tb_122) rfl rfl rfl (by decide +kernel) ⟨Nat.le_of_ble_eq_true rfl, Nat.le_of_ble_eq_true rfl⟩) (PB.preS hK hE hS hA hP hD [] rfl (by decide)) rfl rfl hl.1 rfl (lv_room (Nat.le_of_ble_eq_true rfl)) dX12_word_24 ⟨Nat.le_of_ble_eq_true rfl, Nat.le_of_ble_eq_true rfl⟩) (fun r u H locs hw hP hD hS => ?_)
  obtain rfl : r = 1111 := hw
  obtain ⟨hP, hD⟩ : PD G A [] H := ⟨hP, hD⟩
  refine lv_iload hx hb dX12_word_27 (lv_at hl 6 rfl) ?_
  refine kc_l (W1 := []) (wr := []) [] [] rfl rfl (by decide) (by decide) hP hD hS hA (va_runS (As := [.long 1111, .int 0]) (rest := []) ⟨hx, hb, hml, hown, hT⟩ (zcX12_appends_58 l G cy ev _ ) (va_cwS 2 hT (good_S tb_1373 tb_1371 tb_1372 tb_122) rfl rfl rfl (by decide +kernel) ⟨Nat.le_of_ble_eq_true rfl, Nat.le_of_ble_eq_true rfl⟩) (PB.preS hK hE hS hA hP hD [] rfl (by decide)) rfl rfl hl.1 rfl (lv_room (Nat.le_of_ble_eq_true rfl)) dX12_word_29 ⟨Nat.le_of_ble_eq_true rfl, Nat.le_of_ble_eq_true rfl⟩) (fun r u H locs hw hP hD hS => ?_)
  obtain rfl : r = 1111 := hw
  obtain ⟨hP, hD⟩ : PD G A [] H := ⟨hP, hD⟩
  exact kr_l hx hb hr hlocks hP hD hS (u := (() : Unit)) rfl [] rfl (by decide) (Nat.le_of_ble_eq_true rfl) (Nat.le_of_ble_eq_true rfl) dX12_word_32

set_option maxRecDepth 100000 in
set_option maxHeartbeats 4000000 in
theorem zcX12_appends_59 (l : Launch) (G : va_G) (cy : Nat → ClassId) (ev : Ev) (sz : Nat)   : Met l yX12_appends (WS yX12_appends cX12_appends 3 (some .long)) { frames := 0, cells := 0, slots := 0, locals := 0 } (PB [.long 393, .int 116] sz G cy ev []) (QBl (S := Unit) (fun (r : Int64) (u : Unit) => r = 10631) G (fun u => []) (va_A [] sz)) 0 0 (va_A [] sz) := by
  refine met_of (y := yX12_appends) (L := 3) (av := [.long 393, .int 116]) (Qc := fun A => QBl (S := Unit) (fun (r : Int64) (u : Unit) => r = 10631) G (fun u => []) A) (by decide) (Nat.le_of_ble_eq_true rfl) ?_
  intro p e s m below meth c hx hb hr hml hown hT hlocks hin hK A hA hE hP hD hS ls hl
  have hown : s.vm.findClass "LieClockModel" = some m.cls := hown
  have hl : lv_has ls 3 [(0, .long 393), (2, .int 116)] := hl
  refine lv_iload_n hx hb dX12_appends_0 rfl (lv_at hl 1 rfl) ?_
  refine lv_if_ne (tgt := 8) hx hb dX12_appends_1 (by decide) (fun _ => ?_) (fun c => absurd c (by decide))
  refine lv_ldc2 (v := 27) hx hb hown (hT _ tb_1374) dX12_appends_8 ?_
  refine lv_lload_n hx hb dX12_appends_11 rfl (lv_at hl 0 rfl) ?_
  refine kx_lmul (v := 10611) hx hb dX12_appends_12 (by decide) ?_
  refine lv_iload_n hx hb dX12_appends_13 rfl (lv_at hl 1 rfl) ?_
  refine lv_bipush (v := 97) hx hb dX12_appends_14 (by decide) ?_
  refine kx_isub (v := 19) hx hb dX12_appends_16 (by decide) ?_
  refine lv_iconst (v := 1) hx hb dX12_appends_17 (by decide) ?_
  refine kx_iadd (v := 20) hx hb dX12_appends_18 (by decide) ?_
  refine lv_i2l (v := 20) hx hb dX12_appends_19 (by decide) ?_
  refine kx_ladd (v := 10631) hx hb dX12_appends_20 (by decide) ?_
  exact kr_l hx hb hr hlocks hP hD hS (u := (() : Unit)) rfl [] rfl (by decide) (Nat.le_of_ble_eq_true rfl) (Nat.le_of_ble_eq_true rfl) dX12_appends_21

set_option maxRecDepth 100000 in
set_option maxHeartbeats 4000000 in
theorem zcX12_appends_60 (l : Launch) (G : va_G) (cy : Nat → ClassId) (ev : Ev) (sz : Nat)   : Met l yX12_appends (WS yX12_appends cX12_appends 3 (some .long)) { frames := 0, cells := 0, slots := 0, locals := 0 } (PB [.long 10631, .int 0] sz G cy ev []) (QBl (S := Unit) (fun (r : Int64) (u : Unit) => r = 10631) G (fun u => []) (va_A [] sz)) 0 0 (va_A [] sz) := by
  refine met_of (y := yX12_appends) (L := 3) (av := [.long 10631, .int 0]) (Qc := fun A => QBl (S := Unit) (fun (r : Int64) (u : Unit) => r = 10631) G (fun u => []) A) (by decide) (Nat.le_of_ble_eq_true rfl) ?_
  intro p e s m below meth c hx hb hr hml hown hT hlocks hin hK A hA hE hP hD hS ls hl
  have hown : s.vm.findClass "LieClockModel" = some m.cls := hown
  have hl : lv_has ls 3 [(0, .long 10631), (2, .int 0)] := hl
  refine lv_iload_n hx hb dX12_appends_0 rfl (lv_at hl 1 rfl) ?_
  refine lv_if_ne (tgt := 8) hx hb dX12_appends_1 (by decide) (fun c => absurd (by decide) c) (fun _ => ?_)
  refine lv_lload_n hx hb dX12_appends_4 rfl (lv_at hl 0 rfl) ?_
  refine lv_goto (tgt := 21) hx hb dX12_appends_5 (by decide) ?_
  exact kr_l hx hb hr hlocks hP hD hS (u := (() : Unit)) rfl [] rfl (by decide) (Nat.le_of_ble_eq_true rfl) (Nat.le_of_ble_eq_true rfl) dX12_appends_21

set_option maxRecDepth 100000 in
set_option maxHeartbeats 4000000 in
theorem zcX12_word_13 (l : Launch) (G : va_G) (cy : Nat → ClassId) (ev : Ev) (sz : Nat)   : Met l yX12_word (WS yX12_word cX12_word 7 (some .long)) { frames := 1, cells := 0, slots := 0, locals := 22 } (PB [.int 110, .int 111, .int 116, .int 0, .int 0, .int 0, .int 0] sz G cy ev []) (QBl (S := Unit) (fun (r : Int64) (u : Unit) => r = 10631) G (fun u => []) (va_A [] sz)) 0 0 (va_A [] sz) := by
  refine met_of (y := yX12_word) (L := 7) (av := [.int 110, .int 111, .int 116, .int 0, .int 0, .int 0, .int 0]) (Qc := fun A => QBl (S := Unit) (fun (r : Int64) (u : Unit) => r = 10631) G (fun u => []) A) (by decide) (Nat.le_of_ble_eq_true rfl) ?_
  intro p e s m below meth c hx hb hr hml hown hT hlocks hin hK A hA hE hP hD hS ls hl
  have hown : s.vm.findClass "LieClockModel" = some m.cls := hown
  have hl : lv_has ls 7 [(0, .int 110), (1, .int 111), (2, .int 116), (3, .int 0), (4, .int 0), (5, .int 0), (6, .int 0)] := hl
  refine lv_lconst (v := 0) hx hb dX12_word_0 (by decide) ?_
  refine lv_iload_n hx hb dX12_word_1 rfl (lv_at hl 0 rfl) ?_
  refine kc_l (W1 := []) (wr := []) [] [] rfl rfl (by decide) (by decide) hP hD hS hA (va_runS (As := [.long 0, .int 110]) (rest := []) ⟨hx, hb, hml, hown, hT⟩ (zcX12_appends_9 l G cy ev _ ) (va_cwS 2 hT (good_S tb_1373 tb_1371 tb_1372 tb_122) rfl rfl rfl (by decide +kernel) ⟨Nat.le_of_ble_eq_true rfl, Nat.le_of_ble_eq_true rfl⟩) (PB.preS hK hE hS hA hP hD [] rfl (by decide)) rfl rfl hl.1 rfl (lv_room (Nat.le_of_ble_eq_true rfl)) dX12_word_2 ⟨Nat.le_of_ble_eq_true rfl, Nat.le_of_ble_eq_true rfl⟩) (fun r u H locs hw hP hD hS => ?_)
  obtain rfl : r = 14 := hw
  obtain ⟨hP, hD⟩ : PD G A [] H := ⟨hP, hD⟩
  refine lv_iload_n hx hb dX12_word_5 rfl (lv_at hl 1 rfl) ?_
  refine kc_l (W1 := []) (wr := []) [] [] rfl rfl (by decide) (by decide) hP hD hS hA (va_runS (As := [.long 14, .int 111]) (rest := []) ⟨hx, hb, hml, hown, hT⟩ (zcX12_appends_10 l G cy ev _ ) (va_cwS 2 hT (good_S tb_1373 tb_1371 tb_1372 tb_122) rfl rfl rfl (by decide +kernel) ⟨Nat.le_of_ble_eq_true rfl, Nat.le_of_ble_eq_true rfl⟩) (PB.preS hK hE hS hA hP hD [] rfl (by decide)) rfl rfl hl.1 rfl (lv_room (Nat.le_of_ble_eq_true rfl)) dX12_word_6 ⟨Nat.le_of_ble_eq_true rfl, Nat.le_of_ble_eq_true rfl⟩) (fun r u H locs hw hP hD hS => ?_)
  obtain rfl : r = 393 := hw
  obtain ⟨hP, hD⟩ : PD G A [] H := ⟨hP, hD⟩
  refine lv_iload_n hx hb dX12_word_9 rfl (lv_at hl 2 rfl) ?_
  refine kc_l (W1 := []) (wr := []) [] [] rfl rfl (by decide) (by decide) hP hD hS hA (va_runS (As := [.long 393, .int 116]) (rest := []) ⟨hx, hb, hml, hown, hT⟩ (zcX12_appends_59 l G cy ev _ ) (va_cwS 2 hT (good_S tb_1373 tb_1371 tb_1372 tb_122) rfl rfl rfl (by decide +kernel) ⟨Nat.le_of_ble_eq_true rfl, Nat.le_of_ble_eq_true rfl⟩) (PB.preS hK hE hS hA hP hD [] rfl (by decide)) rfl rfl hl.1 rfl (lv_room (Nat.le_of_ble_eq_true rfl)) dX12_word_10 ⟨Nat.le_of_ble_eq_true rfl, Nat.le_of_ble_eq_true rfl⟩) (fun r u H locs hw hP hD hS => ?_)
  obtain rfl : r = 10631 := hw
  obtain ⟨hP, hD⟩ : PD G A [] H := ⟨hP, hD⟩
  refine lv_iload_n hx hb dX12_word_13 rfl (lv_at hl 3 rfl) ?_
  refine kc_l (W1 := []) (wr := []) [] [] rfl rfl (by decide) (by decide) hP hD hS hA (va_runS (As := [.long 10631, .int 0]) (rest := []) ⟨hx, hb, hml, hown, hT⟩ (zcX12_appends_60 l G cy ev _ ) (va_cwS 2 hT (good_S tb_1373 tb_1371 tb_1372 tb_122) rfl rfl rfl (by decide +kernel) ⟨Nat.le_of_ble_eq_true rfl, Nat.le_of_ble_eq_true rfl⟩) (PB.preS hK hE hS hA hP hD [] rfl (by decide)) rfl rfl hl.1 rfl (lv_room (Nat.le_of_ble_eq_true rfl)) dX12_word_14 ⟨Nat.le_of_ble_eq_true rfl, Nat.le_of_ble_eq_true rfl⟩) (fun r u H locs hw hP hD hS => ?_)
  obtain rfl : r = 10631 := hw
  obtain ⟨hP, hD⟩ : PD G A [] H := ⟨hP, hD⟩
  refine lv_iload hx hb dX12_word_17 (lv_at hl 4 rfl) ?_
  refine kc_l (W1 := []) (wr := []) [] [] rfl rfl (by decide) (by decide) hP hD hS hA (va_runS (As := [.long 10631, .int 0]) (rest := []) ⟨hx, hb, hml, hown, hT⟩ (zcX12_appends_60 l G cy ev _ ) (va_cwS 2 hT (good_S tb_1373 tb_1371 tb_1372 tb_122) rfl rfl rfl (by decide +kernel) ⟨Nat.le_of_ble_eq_true rfl, Nat.le_of_ble_eq_true rfl⟩) (PB.preS hK hE hS hA hP hD [] rfl (by decide)) rfl rfl hl.1 rfl (lv_room (Nat.le_of_ble_eq_true rfl)) dX12_word_19 ⟨Nat.le_of_ble_eq_true rfl, Nat.le_of_ble_eq_true rfl⟩) (fun r u H locs hw hP hD hS => ?_)
  obtain rfl : r = 10631 := hw
  obtain ⟨hP, hD⟩ : PD G A [] H := ⟨hP, hD⟩
  refine lv_iload hx hb dX12_word_22 (lv_at hl 5 rfl) ?_
  refine kc_l (W1 := []) (wr := []) [] [] rfl rfl (by decide) (by decide) hP hD hS hA (va_runS (As := [.long 10631, .int 0]) (rest := []) ⟨hx, hb, hml, hown, hT⟩ (zcX12_appends_60 l G cy ev _ ) (va_cwS 2 hT (good_S tb_1373 tb_1371 tb_1372 tb_122) rfl rfl rfl (by decide +kernel) ⟨Nat.le_of_ble_eq_true rfl, Nat.le_of_ble_eq_true rfl⟩) (PB.preS hK hE hS hA hP hD [] rfl (by decide)) rfl rfl hl.1 rfl (lv_room (Nat.le_of_ble_eq_true rfl)) dX12_word_24 ⟨Nat.le_of_ble_eq_true rfl, Nat.le_of_ble_eq_true rfl⟩) (fun r u H locs hw hP hD hS => ?_)
  obtain rfl : r = 10631 := hw
  obtain ⟨hP, hD⟩ : PD G A [] H := ⟨hP, hD⟩
  refine lv_iload hx hb dX12_word_27 (lv_at hl 6 rfl) ?_
  refine kc_l (W1 := []) (wr := []) [] [] rfl rfl (by decide) (by decide) hP hD hS hA (va_runS (As := [.long 10631, .int 0]) (rest := []) ⟨hx, hb, hml, hown, hT⟩ (zcX12_appends_60 l G cy ev _ ) (va_cwS 2 hT (good_S tb_1373 tb_1371 tb_1372 tb_122) rfl rfl rfl (by decide +kernel) ⟨Nat.le_of_ble_eq_true rfl, Nat.le_of_ble_eq_true rfl⟩) (PB.preS hK hE hS hA hP hD [] rfl (by decide)) rfl rfl hl.1 rfl (lv_room (Nat.le_of_ble_eq_true rfl)) dX12_word_29 ⟨Nat.le_of_ble_eq_true rfl, Nat.le_of_ble_eq_true rfl⟩) (fun r u H locs hw hP hD hS => ?_)
  obtain rfl : r = 10631 := hw
  obtain ⟨hP, hD⟩ : PD G A [] H := ⟨hP, hD⟩
  exact kr_l hx hb hr hlocks hP hD hS (u := (() : Unit)) rfl [] rfl (by decide) (Nat.le_of_ble_eq_true rfl) (Nat.le_of_ble_eq_true rfl) dX12_word_32

set_option maxRecDepth 100000 in
set_option maxHeartbeats 4000000 in
theorem zcX12_appends_61 (l : Launch) (G : va_G) (cy : Nat → ClassId) (ev : Ev) (sz : Nat)   : Met l yX12_appends (WS yX12_appends cX12_appends 3 (some .long)) { frames := 0, cells := 0, slots := 0, locals := 0 } (PB [.long 0, .int 108] sz G cy ev []) (QBl (S := Unit) (fun (r : Int64) (u : Unit) => r = 12) G (fun u => []) (va_A [] sz)) 0 0 (va_A [] sz) := by
  refine met_of (y := yX12_appends) (L := 3) (av := [.long 0, .int 108]) (Qc := fun A => QBl (S := Unit) (fun (r : Int64) (u : Unit) => r = 12) G (fun u => []) A) (by decide) (Nat.le_of_ble_eq_true rfl) ?_
  intro p e s m below meth c hx hb hr hml hown hT hlocks hin hK A hA hE hP hD hS ls hl
  have hown : s.vm.findClass "LieClockModel" = some m.cls := hown
  have hl : lv_has ls 3 [(0, .long 0), (2, .int 108)] := hl
  refine lv_iload_n hx hb dX12_appends_0 rfl (lv_at hl 1 rfl) ?_
  refine lv_if_ne (tgt := 8) hx hb dX12_appends_1 (by decide) (fun _ => ?_) (fun c => absurd c (by decide))
  refine lv_ldc2 (v := 27) hx hb hown (hT _ tb_1374) dX12_appends_8 ?_
  refine lv_lload_n hx hb dX12_appends_11 rfl (lv_at hl 0 rfl) ?_
  refine kx_lmul (v := 0) hx hb dX12_appends_12 (by decide) ?_
  refine lv_iload_n hx hb dX12_appends_13 rfl (lv_at hl 1 rfl) ?_
  refine lv_bipush (v := 97) hx hb dX12_appends_14 (by decide) ?_
  refine kx_isub (v := 11) hx hb dX12_appends_16 (by decide) ?_
  refine lv_iconst (v := 1) hx hb dX12_appends_17 (by decide) ?_
  refine kx_iadd (v := 12) hx hb dX12_appends_18 (by decide) ?_
  refine lv_i2l (v := 12) hx hb dX12_appends_19 (by decide) ?_
  refine kx_ladd (v := 12) hx hb dX12_appends_20 (by decide) ?_
  exact kr_l hx hb hr hlocks hP hD hS (u := (() : Unit)) rfl [] rfl (by decide) (Nat.le_of_ble_eq_true rfl) (Nat.le_of_ble_eq_true rfl) dX12_appends_21

set_option maxRecDepth 100000 in
set_option maxHeartbeats 4000000 in
theorem zcX12_appends_62 (l : Launch) (G : va_G) (cy : Nat → ClassId) (ev : Ev) (sz : Nat)   : Met l yX12_appends (WS yX12_appends cX12_appends 3 (some .long)) { frames := 0, cells := 0, slots := 0, locals := 0 } (PB [.long 12, .int 105] sz G cy ev []) (QBl (S := Unit) (fun (r : Int64) (u : Unit) => r = 333) G (fun u => []) (va_A [] sz)) 0 0 (va_A [] sz) := by
  refine met_of (y := yX12_appends) (L := 3) (av := [.long 12, .int 105]) (Qc := fun A => QBl (S := Unit) (fun (r : Int64) (u : Unit) => r = 333) G (fun u => []) A) (by decide) (Nat.le_of_ble_eq_true rfl) ?_
  intro p e s m below meth c hx hb hr hml hown hT hlocks hin hK A hA hE hP hD hS ls hl
  have hown : s.vm.findClass "LieClockModel" = some m.cls := hown
  have hl : lv_has ls 3 [(0, .long 12), (2, .int 105)] := hl
  refine lv_iload_n hx hb dX12_appends_0 rfl (lv_at hl 1 rfl) ?_
  refine lv_if_ne (tgt := 8) hx hb dX12_appends_1 (by decide) (fun _ => ?_) (fun c => absurd c (by decide))
  refine lv_ldc2 (v := 27) hx hb hown (hT _ tb_1374) dX12_appends_8 ?_
  refine lv_lload_n hx hb dX12_appends_11 rfl (lv_at hl 0 rfl) ?_
  refine kx_lmul (v := 324) hx hb dX12_appends_12 (by decide) ?_
  refine lv_iload_n hx hb dX12_appends_13 rfl (lv_at hl 1 rfl) ?_
  refine lv_bipush (v := 97) hx hb dX12_appends_14 (by decide) ?_
  refine kx_isub (v := 8) hx hb dX12_appends_16 (by decide) ?_
  refine lv_iconst (v := 1) hx hb dX12_appends_17 (by decide) ?_
  refine kx_iadd (v := 9) hx hb dX12_appends_18 (by decide) ?_
  refine lv_i2l (v := 9) hx hb dX12_appends_19 (by decide) ?_
  refine kx_ladd (v := 333) hx hb dX12_appends_20 (by decide) ?_
  exact kr_l hx hb hr hlocks hP hD hS (u := (() : Unit)) rfl [] rfl (by decide) (Nat.le_of_ble_eq_true rfl) (Nat.le_of_ble_eq_true rfl) dX12_appends_21

set_option maxRecDepth 100000 in
set_option maxHeartbeats 4000000 in
theorem zcX12_appends_63 (l : Launch) (G : va_G) (cy : Nat → ClassId) (ev : Ev) (sz : Nat)   : Met l yX12_appends (WS yX12_appends cX12_appends 3 (some .long)) { frames := 0, cells := 0, slots := 0, locals := 0 } (PB [.long 333, .int 101] sz G cy ev []) (QBl (S := Unit) (fun (r : Int64) (u : Unit) => r = 8996) G (fun u => []) (va_A [] sz)) 0 0 (va_A [] sz) := by
  refine met_of (y := yX12_appends) (L := 3) (av := [.long 333, .int 101]) (Qc := fun A => QBl (S := Unit) (fun (r : Int64) (u : Unit) => r = 8996) G (fun u => []) A) (by decide) (Nat.le_of_ble_eq_true rfl) ?_
  intro p e s m below meth c hx hb hr hml hown hT hlocks hin hK A hA hE hP hD hS ls hl
  have hown : s.vm.findClass "LieClockModel" = some m.cls := hown
  have hl : lv_has ls 3 [(0, .long 333), (2, .int 101)] := hl
  refine lv_iload_n hx hb dX12_appends_0 rfl (lv_at hl 1 rfl) ?_
  refine lv_if_ne (tgt := 8) hx hb dX12_appends_1 (by decide) (fun _ => ?_) (fun c => absurd c (by decide))
  refine lv_ldc2 (v := 27) hx hb hown (hT _ tb_1374) dX12_appends_8 ?_
  refine lv_lload_n hx hb dX12_appends_11 rfl (lv_at hl 0 rfl) ?_
  refine kx_lmul (v := 8991) hx hb dX12_appends_12 (by decide) ?_
  refine lv_iload_n hx hb dX12_appends_13 rfl (lv_at hl 1 rfl) ?_
  refine lv_bipush (v := 97) hx hb dX12_appends_14 (by decide) ?_
  refine kx_isub (v := 4) hx hb dX12_appends_16 (by decide) ?_
  refine lv_iconst (v := 1) hx hb dX12_appends_17 (by decide) ?_
  refine kx_iadd (v := 5) hx hb dX12_appends_18 (by decide) ?_
  refine lv_i2l (v := 5) hx hb dX12_appends_19 (by decide) ?_
  refine kx_ladd (v := 8996) hx hb dX12_appends_20 (by decide) ?_
  exact kr_l hx hb hr hlocks hP hD hS (u := (() : Unit)) rfl [] rfl (by decide) (Nat.le_of_ble_eq_true rfl) (Nat.le_of_ble_eq_true rfl) dX12_appends_21

set_option maxRecDepth 100000 in
set_option maxHeartbeats 4000000 in
theorem zcX12_appends_64 (l : Launch) (G : va_G) (cy : Nat → ClassId) (ev : Ev) (sz : Nat)   : Met l yX12_appends (WS yX12_appends cX12_appends 3 (some .long)) { frames := 0, cells := 0, slots := 0, locals := 0 } (PB [.long 8996, .int 115] sz G cy ev []) (QBl (S := Unit) (fun (r : Int64) (u : Unit) => r = 242911) G (fun u => []) (va_A [] sz)) 0 0 (va_A [] sz) := by
  refine met_of (y := yX12_appends) (L := 3) (av := [.long 8996, .int 115]) (Qc := fun A => QBl (S := Unit) (fun (r : Int64) (u : Unit) => r = 242911) G (fun u => []) A) (by decide) (Nat.le_of_ble_eq_true rfl) ?_
  intro p e s m below meth c hx hb hr hml hown hT hlocks hin hK A hA hE hP hD hS ls hl
  have hown : s.vm.findClass "LieClockModel" = some m.cls := hown
  have hl : lv_has ls 3 [(0, .long 8996), (2, .int 115)] := hl
  refine lv_iload_n hx hb dX12_appends_0 rfl (lv_at hl 1 rfl) ?_
  refine lv_if_ne (tgt := 8) hx hb dX12_appends_1 (by decide) (fun _ => ?_) (fun c => absurd c (by decide))
  refine lv_ldc2 (v := 27) hx hb hown (hT _ tb_1374) dX12_appends_8 ?_
  refine lv_lload_n hx hb dX12_appends_11 rfl (lv_at hl 0 rfl) ?_
  refine kx_lmul (v := 242892) hx hb dX12_appends_12 (by decide) ?_
  refine lv_iload_n hx hb dX12_appends_13 rfl (lv_at hl 1 rfl) ?_
  refine lv_bipush (v := 97) hx hb dX12_appends_14 (by decide) ?_
  refine kx_isub (v := 18) hx hb dX12_appends_16 (by decide) ?_
  refine lv_iconst (v := 1) hx hb dX12_appends_17 (by decide) ?_
  refine kx_iadd (v := 19) hx hb dX12_appends_18 (by decide) ?_
  refine lv_i2l (v := 19) hx hb dX12_appends_19 (by decide) ?_
  refine kx_ladd (v := 242911) hx hb dX12_appends_20 (by decide) ?_
  exact kr_l hx hb hr hlocks hP hD hS (u := (() : Unit)) rfl [] rfl (by decide) (Nat.le_of_ble_eq_true rfl) (Nat.le_of_ble_eq_true rfl) dX12_appends_21

set_option maxRecDepth 100000 in
set_option maxHeartbeats 4000000 in
theorem zcX12_appends_65 (l : Launch) (G : va_G) (cy : Nat → ClassId) (ev : Ev) (sz : Nat)   : Met l yX12_appends (WS yX12_appends cX12_appends 3 (some .long)) { frames := 0, cells := 0, slots := 0, locals := 0 } (PB [.long 242911, .int 0] sz G cy ev []) (QBl (S := Unit) (fun (r : Int64) (u : Unit) => r = 242911) G (fun u => []) (va_A [] sz)) 0 0 (va_A [] sz) := by
  refine met_of (y := yX12_appends) (L := 3) (av := [.long 242911, .int 0]) (Qc := fun A => QBl (S := Unit) (fun (r : Int64) (u : Unit) => r = 242911) G (fun u => []) A) (by decide) (Nat.le_of_ble_eq_true rfl) ?_
  intro p e s m below meth c hx hb hr hml hown hT hlocks hin hK A hA hE hP hD hS ls hl
  have hown : s.vm.findClass "LieClockModel" = some m.cls := hown
  have hl : lv_has ls 3 [(0, .long 242911), (2, .int 0)] := hl
  refine lv_iload_n hx hb dX12_appends_0 rfl (lv_at hl 1 rfl) ?_
  refine lv_if_ne (tgt := 8) hx hb dX12_appends_1 (by decide) (fun c => absurd (by decide) c) (fun _ => ?_)
  refine lv_lload_n hx hb dX12_appends_4 rfl (lv_at hl 0 rfl) ?_
  refine lv_goto (tgt := 21) hx hb dX12_appends_5 (by decide) ?_
  exact kr_l hx hb hr hlocks hP hD hS (u := (() : Unit)) rfl [] rfl (by decide) (Nat.le_of_ble_eq_true rfl) (Nat.le_of_ble_eq_true rfl) dX12_appends_21

set_option maxRecDepth 100000 in
set_option maxHeartbeats 4000000 in
theorem zcX12_word_14 (l : Launch) (G : va_G) (cy : Nat → ClassId) (ev : Ev) (sz : Nat)   : Met l yX12_word (WS yX12_word cX12_word 7 (some .long)) { frames := 1, cells := 0, slots := 0, locals := 22 } (PB [.int 108, .int 105, .int 101, .int 115, .int 0, .int 0, .int 0] sz G cy ev []) (QBl (S := Unit) (fun (r : Int64) (u : Unit) => r = 242911) G (fun u => []) (va_A [] sz)) 0 0 (va_A [] sz) := by
  refine met_of (y := yX12_word) (L := 7) (av := [.int 108, .int 105, .int 101, .int 115, .int 0, .int 0, .int 0]) (Qc := fun A => QBl (S := Unit) (fun (r : Int64) (u : Unit) => r = 242911) G (fun u => []) A) (by decide) (Nat.le_of_ble_eq_true rfl) ?_
  intro p e s m below meth c hx hb hr hml hown hT hlocks hin hK A hA hE hP hD hS ls hl
  have hown : s.vm.findClass "LieClockModel" = some m.cls := hown
  have hl : lv_has ls 7 [(0, .int 108), (1, .int 105), (2, .int 101), (3, .int 115), (4, .int 0), (5, .int 0), (6, .int 0)] := hl
  refine lv_lconst (v := 0) hx hb dX12_word_0 (by decide) ?_
  refine lv_iload_n hx hb dX12_word_1 rfl (lv_at hl 0 rfl) ?_
  refine kc_l (W1 := []) (wr := []) [] [] rfl rfl (by decide) (by decide) hP hD hS hA (va_runS (As := [.long 0, .int 108]) (rest := []) ⟨hx, hb, hml, hown, hT⟩ (zcX12_appends_61 l G cy ev _ ) (va_cwS 2 hT (good_S tb_1373 tb_1371 tb_1372 tb_122) rfl rfl rfl (by decide +kernel) ⟨Nat.le_of_ble_eq_true rfl, Nat.le_of_ble_eq_true rfl⟩) (PB.preS hK hE hS hA hP hD [] rfl (by decide)) rfl rfl hl.1 rfl (lv_room (Nat.le_of_ble_eq_true rfl)) dX12_word_2 ⟨Nat.le_of_ble_eq_true rfl, Nat.le_of_ble_eq_true rfl⟩) (fun r u H locs hw hP hD hS => ?_)
  obtain rfl : r = 12 := hw
  obtain ⟨hP, hD⟩ : PD G A [] H := ⟨hP, hD⟩
  refine lv_iload_n hx hb dX12_word_5 rfl (lv_at hl 1 rfl) ?_
  refine kc_l (W1 := []) (wr := []) [] [] rfl rfl (by decide) (by decide) hP hD hS hA (va_runS (As := [.long 12, .int 105]) (rest := []) ⟨hx, hb, hml, hown, hT⟩ (zcX12_appends_62 l G cy ev _ ) (va_cwS 2 hT (good_S tb_1373 tb_1371 tb_1372 tb_122) rfl rfl rfl (by decide +kernel) ⟨Nat.le_of_ble_eq_true rfl, Nat.le_of_ble_eq_true rfl⟩) (PB.preS hK hE hS hA hP hD [] rfl (by decide)) rfl rfl hl.1 rfl (lv_room (Nat.le_of_ble_eq_true rfl)) dX12_word_6 ⟨Nat.le_of_ble_eq_true rfl, Nat.le_of_ble_eq_true rfl⟩) (fun r u H locs hw hP hD hS => ?_)
  obtain rfl : r = 333 := hw
  obtain ⟨hP, hD⟩ : PD G A [] H := ⟨hP, hD⟩
  refine lv_iload_n hx hb dX12_word_9 rfl (lv_at hl 2 rfl) ?_
  refine kc_l (W1 := []) (wr := []) [] [] rfl rfl (by decide) (by decide) hP hD hS hA (va_runS (As := [.long 333, .int 101]) (rest := []) ⟨hx, hb, hml, hown, hT⟩ (zcX12_appends_63 l G cy ev _ ) (va_cwS 2 hT (good_S tb_1373 tb_1371 tb_1372 tb_122) rfl rfl rfl (by decide +kernel) ⟨Nat.le_of_ble_eq_true rfl, Nat.le_of_ble_eq_true rfl⟩) (PB.preS hK hE hS hA hP hD [] rfl (by decide)) rfl rfl hl.1 rfl (lv_room (Nat.le_of_ble_eq_true rfl)) dX12_word_10 ⟨Nat.le_of_ble_eq_true rfl, Nat.le_of_ble_eq_true rfl⟩) (fun r u H locs hw hP hD hS => ?_)
  obtain rfl : r = 8996 := hw
  obtain ⟨hP, hD⟩ : PD G A [] H := ⟨hP, hD⟩
  refine lv_iload_n hx hb dX12_word_13 rfl (lv_at hl 3 rfl) ?_
  refine kc_l (W1 := []) (wr := []) [] [] rfl rfl (by decide) (by decide) hP hD hS hA (va_runS (As := [.long 8996, .int 115]) (rest := []) ⟨hx, hb, hml, hown, hT⟩ (zcX12_appends_64 l G cy ev _ ) (va_cwS 2 hT (good_S tb_1373 tb_1371 tb_1372 tb_122) rfl rfl rfl (by decide +kernel) ⟨Nat.le_of_ble_eq_true rfl, Nat.le_of_ble_eq_true rfl⟩) (PB.preS hK hE hS hA hP hD [] rfl (by decide)) rfl rfl hl.1 rfl (lv_room (Nat.le_of_ble_eq_true rfl)) dX12_word_14 ⟨Nat.le_of_ble_eq_true rfl, Nat.le_of_ble_eq_true rfl⟩) (fun r u H locs hw hP hD hS => ?_)
  obtain rfl : r = 242911 := hw
  obtain ⟨hP, hD⟩ : PD G A [] H := ⟨hP, hD⟩
  refine lv_iload hx hb dX12_word_17 (lv_at hl 4 rfl) ?_
  refine kc_l (W1 := []) (wr := []) [] [] rfl rfl (by decide) (by decide) hP hD hS hA (va_runS (As := [.long 242911, .int 0]) (rest := []) ⟨hx, hb, hml, hown, hT⟩ (zcX12_appends_65 l G cy ev _ ) (va_cwS 2 hT (good_S tb_1373 tb_1371 tb_1372 tb_122) rfl rfl rfl (by decide +kernel) ⟨Nat.le_of_ble_eq_true rfl, Nat.le_of_ble_eq_true rfl⟩) (PB.preS hK hE hS hA hP hD [] rfl (by decide)) rfl rfl hl.1 rfl (lv_room (Nat.le_of_ble_eq_true rfl)) dX12_word_19 ⟨Nat.le_of_ble_eq_true rfl, Nat.le_of_ble_eq_true rfl⟩) (fun r u H locs hw hP hD hS => ?_)
  obtain rfl : r = 242911 := hw
  obtain ⟨hP, hD⟩ : PD G A [] H := ⟨hP, hD⟩
  refine lv_iload hx hb dX12_word_22 (lv_at hl 5 rfl) ?_
  refine kc_l (W1 := []) (wr := []) [] [] rfl rfl (by decide) (by decide) hP hD hS hA (va_runS (As := [.long 242911, .int 0]) (rest := []) ⟨hx, hb, hml, hown, hT⟩ (zcX12_appends_65 l G cy ev _ ) (va_cwS 2 hT (good_S tb_1373 tb_1371 tb_1372 tb_122) rfl rfl rfl (by decide +kernel) ⟨Nat.le_of_ble_eq_true rfl, Nat.le_of_ble_eq_true rfl⟩) (PB.preS hK hE hS hA hP hD [] rfl (by decide)) rfl rfl hl.1 rfl (lv_room (Nat.le_of_ble_eq_true rfl)) dX12_word_24 ⟨Nat.le_of_ble_eq_true rfl, Nat.le_of_ble_eq_true rfl⟩) (fun r u H locs hw hP hD hS => ?_)
  obtain rfl : r = 242911 := hw
  obtain ⟨hP, hD⟩ : PD G A [] H := ⟨hP, hD⟩
  refine lv_iload hx hb dX12_word_27 (lv_at hl 6 rfl) ?_
  refine kc_l (W1 := []) (wr := []) [] [] rfl rfl (by decide) (by decide) hP hD hS hA (va_runS (As := [.long 242911, .int 0]) (rest := []) ⟨hx, hb, hml, hown, hT⟩ (zcX12_appends_65 l G cy ev _ ) (va_cwS 2 hT (good_S tb_1373 tb_1371 tb_1372 tb_122) rfl rfl rfl (by decide +kernel) ⟨Nat.le_of_ble_eq_true rfl, Nat.le_of_ble_eq_true rfl⟩) (PB.preS hK hE hS hA hP hD [] rfl (by decide)) rfl rfl hl.1 rfl (lv_room (Nat.le_of_ble_eq_true rfl)) dX12_word_29 ⟨Nat.le_of_ble_eq_true rfl, Nat.le_of_ble_eq_true rfl⟩) (fun r u H locs hw hP hD hS => ?_)
  obtain rfl : r = 242911 := hw
  obtain ⟨hP, hD⟩ : PD G A [] H := ⟨hP, hD⟩
  exact kr_l hx hb hr hlocks hP hD hS (u := (() : Unit)) rfl [] rfl (by decide) (Nat.le_of_ble_eq_true rfl) (Nat.le_of_ble_eq_true rfl) dX12_word_32

set_option maxRecDepth 100000 in
set_option maxHeartbeats 4000000 in
theorem zcX12_appends_66 (l : Launch) (G : va_G) (cy : Nat → ClassId) (ev : Ev) (sz : Nat)   : Met l yX12_appends (WS yX12_appends cX12_appends 3 (some .long)) { frames := 0, cells := 0, slots := 0, locals := 0 } (PB [.long 19, .int 97] sz G cy ev []) (QBl (S := Unit) (fun (r : Int64) (u : Unit) => r = 514) G (fun u => []) (va_A [] sz)) 0 0 (va_A [] sz) := by
  refine met_of (y := yX12_appends) (L := 3) (av := [.long 19, .int 97]) (Qc := fun A => QBl (S := Unit) (fun (r : Int64) (u : Unit) => r = 514) G (fun u => []) A) (by decide) (Nat.le_of_ble_eq_true rfl) ?_
  intro p e s m below meth c hx hb hr hml hown hT hlocks hin hK A hA hE hP hD hS ls hl
  have hown : s.vm.findClass "LieClockModel" = some m.cls := hown
  have hl : lv_has ls 3 [(0, .long 19), (2, .int 97)] := hl
  refine lv_iload_n hx hb dX12_appends_0 rfl (lv_at hl 1 rfl) ?_
  refine lv_if_ne (tgt := 8) hx hb dX12_appends_1 (by decide) (fun _ => ?_) (fun c => absurd c (by decide))
  refine lv_ldc2 (v := 27) hx hb hown (hT _ tb_1374) dX12_appends_8 ?_
  refine lv_lload_n hx hb dX12_appends_11 rfl (lv_at hl 0 rfl) ?_
  refine kx_lmul (v := 513) hx hb dX12_appends_12 (by decide) ?_
  refine lv_iload_n hx hb dX12_appends_13 rfl (lv_at hl 1 rfl) ?_
  refine lv_bipush (v := 97) hx hb dX12_appends_14 (by decide) ?_
  refine kx_isub (v := 0) hx hb dX12_appends_16 (by decide) ?_
  refine lv_iconst (v := 1) hx hb dX12_appends_17 (by decide) ?_
  refine kx_iadd (v := 1) hx hb dX12_appends_18 (by decide) ?_
  refine lv_i2l (v := 1) hx hb dX12_appends_19 (by decide) ?_
  refine kx_ladd (v := 514) hx hb dX12_appends_20 (by decide) ?_
  exact kr_l hx hb hr hlocks hP hD hS (u := (() : Unit)) rfl [] rfl (by decide) (Nat.le_of_ble_eq_true rfl) (Nat.le_of_ble_eq_true rfl) dX12_appends_21

set_option maxRecDepth 100000 in
set_option maxHeartbeats 4000000 in
theorem zcX12_appends_67 (l : Launch) (G : va_G) (cy : Nat → ClassId) (ev : Ev) (sz : Nat)   : Met l yX12_appends (WS yX12_appends cX12_appends 3 (some .long)) { frames := 0, cells := 0, slots := 0, locals := 0 } (PB [.long 514, .int 105] sz G cy ev []) (QBl (S := Unit) (fun (r : Int64) (u : Unit) => r = 13887) G (fun u => []) (va_A [] sz)) 0 0 (va_A [] sz) := by
  refine met_of (y := yX12_appends) (L := 3) (av := [.long 514, .int 105]) (Qc := fun A => QBl (S := Unit) (fun (r : Int64) (u : Unit) => r = 13887) G (fun u => []) A) (by decide) (Nat.le_of_ble_eq_true rfl) ?_
  intro p e s m below meth c hx hb hr hml hown hT hlocks hin hK A hA hE hP hD hS ls hl
  have hown : s.vm.findClass "LieClockModel" = some m.cls := hown
  have hl : lv_has ls 3 [(0, .long 514), (2, .int 105)] := hl
  refine lv_iload_n hx hb dX12_appends_0 rfl (lv_at hl 1 rfl) ?_
  refine lv_if_ne (tgt := 8) hx hb dX12_appends_1 (by decide) (fun _ => ?_) (fun c => absurd c (by decide))
  refine lv_ldc2 (v := 27) hx hb hown (hT _ tb_1374) dX12_appends_8 ?_
  refine lv_lload_n hx hb dX12_appends_11 rfl (lv_at hl 0 rfl) ?_
  refine kx_lmul (v := 13878) hx hb dX12_appends_12 (by decide) ?_
  refine lv_iload_n hx hb dX12_appends_13 rfl (lv_at hl 1 rfl) ?_
  refine lv_bipush (v := 97) hx hb dX12_appends_14 (by decide) ?_
  refine kx_isub (v := 8) hx hb dX12_appends_16 (by decide) ?_
  refine lv_iconst (v := 1) hx hb dX12_appends_17 (by decide) ?_
  refine kx_iadd (v := 9) hx hb dX12_appends_18 (by decide) ?_
  refine lv_i2l (v := 9) hx hb dX12_appends_19 (by decide) ?_
  refine kx_ladd (v := 13887) hx hb dX12_appends_20 (by decide) ?_
  exact kr_l hx hb hr hlocks hP hD hS (u := (() : Unit)) rfl [] rfl (by decide) (Nat.le_of_ble_eq_true rfl) (Nat.le_of_ble_eq_true rfl) dX12_appends_21

set_option maxRecDepth 100000 in
set_option maxHeartbeats 4000000 in
theorem zcX12_appends_68 (l : Launch) (G : va_G) (cy : Nat → ClassId) (ev : Ev) (sz : Nat)   : Met l yX12_appends (WS yX12_appends cX12_appends 3 (some .long)) { frames := 0, cells := 0, slots := 0, locals := 0 } (PB [.long 13887, .int 100] sz G cy ev []) (QBl (S := Unit) (fun (r : Int64) (u : Unit) => r = 374953) G (fun u => []) (va_A [] sz)) 0 0 (va_A [] sz) := by
  refine met_of (y := yX12_appends) (L := 3) (av := [.long 13887, .int 100]) (Qc := fun A => QBl (S := Unit) (fun (r : Int64) (u : Unit) => r = 374953) G (fun u => []) A) (by decide) (Nat.le_of_ble_eq_true rfl) ?_
  intro p e s m below meth c hx hb hr hml hown hT hlocks hin hK A hA hE hP hD hS ls hl
  have hown : s.vm.findClass "LieClockModel" = some m.cls := hown
  have hl : lv_has ls 3 [(0, .long 13887), (2, .int 100)] := hl
  refine lv_iload_n hx hb dX12_appends_0 rfl (lv_at hl 1 rfl) ?_
  refine lv_if_ne (tgt := 8) hx hb dX12_appends_1 (by decide) (fun _ => ?_) (fun c => absurd c (by decide))
  refine lv_ldc2 (v := 27) hx hb hown (hT _ tb_1374) dX12_appends_8 ?_
  refine lv_lload_n hx hb dX12_appends_11 rfl (lv_at hl 0 rfl) ?_
  refine kx_lmul (v := 374949) hx hb dX12_appends_12 (by decide) ?_
  refine lv_iload_n hx hb dX12_appends_13 rfl (lv_at hl 1 rfl) ?_
  refine lv_bipush (v := 97) hx hb dX12_appends_14 (by decide) ?_
  refine kx_isub (v := 3) hx hb dX12_appends_16 (by decide) ?_
  refine lv_iconst (v := 1) hx hb dX12_appends_17 (by decide) ?_
  refine kx_iadd (v := 4) hx hb dX12_appends_18 (by decide) ?_
  refine lv_i2l (v := 4) hx hb dX12_appends_19 (by decide) ?_
  refine kx_ladd (v := 374953) hx hb dX12_appends_20 (by decide) ?_
  exact kr_l hx hb hr hlocks hP hD hS (u := (() : Unit)) rfl [] rfl (by decide) (Nat.le_of_ble_eq_true rfl) (Nat.le_of_ble_eq_true rfl) dX12_appends_21

set_option maxRecDepth 100000 in
set_option maxHeartbeats 4000000 in
theorem zcX12_appends_69 (l : Launch) (G : va_G) (cy : Nat → ClassId) (ev : Ev) (sz : Nat)   : Met l yX12_appends (WS yX12_appends cX12_appends 3 (some .long)) { frames := 0, cells := 0, slots := 0, locals := 0 } (PB [.long 374953, .int 0] sz G cy ev []) (QBl (S := Unit) (fun (r : Int64) (u : Unit) => r = 374953) G (fun u => []) (va_A [] sz)) 0 0 (va_A [] sz) := by
  refine met_of (y := yX12_appends) (L := 3) (av := [.long 374953, .int 0]) (Qc := fun A => QBl (S := Unit) (fun (r : Int64) (u : Unit) => r = 374953) G (fun u => []) A) (by decide) (Nat.le_of_ble_eq_true rfl) ?_
  intro p e s m below meth c hx hb hr hml hown hT hlocks hin hK A hA hE hP hD hS ls hl
  have hown : s.vm.findClass "LieClockModel" = some m.cls := hown
  have hl : lv_has ls 3 [(0, .long 374953), (2, .int 0)] := hl
  refine lv_iload_n hx hb dX12_appends_0 rfl (lv_at hl 1 rfl) ?_
  refine lv_if_ne (tgt := 8) hx hb dX12_appends_1 (by decide) (fun c => absurd (by decide) c) (fun _ => ?_)
  refine lv_lload_n hx hb dX12_appends_4 rfl (lv_at hl 0 rfl) ?_
  refine lv_goto (tgt := 21) hx hb dX12_appends_5 (by decide) ?_
  exact kr_l hx hb hr hlocks hP hD hS (u := (() : Unit)) rfl [] rfl (by decide) (Nat.le_of_ble_eq_true rfl) (Nat.le_of_ble_eq_true rfl) dX12_appends_21

set_option maxRecDepth 100000 in
set_option maxHeartbeats 4000000 in
theorem zcX12_word_15 (l : Launch) (G : va_G) (cy : Nat → ClassId) (ev : Ev) (sz : Nat)   : Met l yX12_word (WS yX12_word cX12_word 7 (some .long)) { frames := 1, cells := 0, slots := 0, locals := 22 } (PB [.int 115, .int 97, .int 105, .int 100, .int 0, .int 0, .int 0] sz G cy ev []) (QBl (S := Unit) (fun (r : Int64) (u : Unit) => r = 374953) G (fun u => []) (va_A [] sz)) 0 0 (va_A [] sz) := by
  refine met_of (y := yX12_word) (L := 7) (av := [.int 115, .int 97, .int 105, .int 100, .int 0, .int 0, .int 0]) (Qc := fun A => QBl (S := Unit) (fun (r : Int64) (u : Unit) => r = 374953) G (fun u => []) A) (by decide) (Nat.le_of_ble_eq_true rfl) ?_
  intro p e s m below meth c hx hb hr hml hown hT hlocks hin hK A hA hE hP hD hS ls hl
  have hown : s.vm.findClass "LieClockModel" = some m.cls := hown
  have hl : lv_has ls 7 [(0, .int 115), (1, .int 97), (2, .int 105), (3, .int 100), (4, .int 0), (5, .int 0), (6, .int 0)] := hl
  refine lv_lconst (v := 0) hx hb dX12_word_0 (by decide) ?_
  refine lv_iload_n hx hb dX12_word_1 rfl (lv_at hl 0 rfl) ?_
  refine kc_l (W1 := []) (wr := []) [] [] rfl rfl (by decide) (by decide) hP hD hS hA (va_runS (As := [.long 0, .int 115]) (rest := []) ⟨hx, hb, hml, hown, hT⟩ (zcX12_appends_28 l G cy ev _ ) (va_cwS 2 hT (good_S tb_1373 tb_1371 tb_1372 tb_122) rfl rfl rfl (by decide +kernel) ⟨Nat.le_of_ble_eq_true rfl, Nat.le_of_ble_eq_true rfl⟩) (PB.preS hK hE hS hA hP hD [] rfl (by decide)) rfl rfl hl.1 rfl (lv_room (Nat.le_of_ble_eq_true rfl)) dX12_word_2 ⟨Nat.le_of_ble_eq_true rfl, Nat.le_of_ble_eq_true rfl⟩) (fun r u H locs hw hP hD hS => ?_)
  obtain rfl : r = 19 := hw
  obtain ⟨hP, hD⟩ : PD G A [] H := ⟨hP, hD⟩
  refine lv_iload_n hx hb dX12_word_5 rfl (lv_at hl 1 rfl) ?_
  refine kc_l (W1 := []) (wr := []) [] [] rfl rfl (by decide) (by decide) hP hD hS hA (va_runS (As := [.long 19, .int 97]) (rest := []) ⟨hx, hb, hml, hown, hT⟩ (zcX12_appends_66 l G cy ev _ ) (va_cwS 2 hT (good_S tb_1373 tb_1371 tb_1372 tb_122) rfl rfl rfl (by decide +kernel) ⟨Nat.le_of_ble_eq_true rfl, Nat.le_of_ble_eq_true rfl⟩) (PB.preS hK hE hS hA hP hD [] rfl (by decide)) rfl rfl hl.1 rfl (lv_room (Nat.le_of_ble_eq_true rfl)) dX12_word_6 ⟨Nat.le_of_ble_eq_true rfl, Nat.le_of_ble_eq_true rfl⟩) (fun r u H locs hw hP hD hS => ?_)
  obtain rfl : r = 514 := hw
  obtain ⟨hP, hD⟩ : PD G A [] H := ⟨hP, hD⟩
  refine lv_iload_n hx hb dX12_word_9 rfl (lv_at hl 2 rfl) ?_
  refine kc_l (W1 := []) (wr := []) [] [] rfl rfl (by decide) (by decide) hP hD hS hA (va_runS (As := [.long 514, .int 105]) (rest := []) ⟨hx, hb, hml, hown, hT⟩ (zcX12_appends_67 l G cy ev _ ) (va_cwS 2 hT (good_S tb_1373 tb_1371 tb_1372 tb_122) rfl rfl rfl (by decide +kernel) ⟨Nat.le_of_ble_eq_true rfl, Nat.le_of_ble_eq_true rfl⟩) (PB.preS hK hE hS hA hP hD [] rfl (by decide)) rfl rfl hl.1 rfl (lv_room (Nat.le_of_ble_eq_true rfl)) dX12_word_10 ⟨Nat.le_of_ble_eq_true rfl, Nat.le_of_ble_eq_true rfl⟩) (fun r u H locs hw hP hD hS => ?_)
  obtain rfl : r = 13887 := hw
  obtain ⟨hP, hD⟩ : PD G A [] H := ⟨hP, hD⟩
  refine lv_iload_n hx hb dX12_word_13 rfl (lv_at hl 3 rfl) ?_
  refine kc_l (W1 := []) (wr := []) [] [] rfl rfl (by decide) (by decide) hP hD hS hA (va_runS (As := [.long 13887, .int 100]) (rest := []) ⟨hx, hb, hml, hown, hT⟩ (zcX12_appends_68 l G cy ev _ ) (va_cwS 2 hT (good_S tb_1373 tb_1371 tb_1372 tb_122) rfl rfl rfl (by decide +kernel) ⟨Nat.le_of_ble_eq_true rfl, Nat.le_of_ble_eq_true rfl⟩) (PB.preS hK hE hS hA hP hD [] rfl (by decide)) rfl rfl hl.1 rfl (lv_room (Nat.le_of_ble_eq_true rfl)) dX12_word_14 ⟨Nat.le_of_ble_eq_true rfl, Nat.le_of_ble_eq_true rfl⟩) (fun r u H locs hw hP hD hS => ?_)
  obtain rfl : r = 374953 := hw
  obtain ⟨hP, hD⟩ : PD G A [] H := ⟨hP, hD⟩
  refine lv_iload hx hb dX12_word_17 (lv_at hl 4 rfl) ?_
  refine kc_l (W1 := []) (wr := []) [] [] rfl rfl (by decide) (by decide) hP hD hS hA (va_runS (As := [.long 374953, .int 0]) (rest := []) ⟨hx, hb, hml, hown, hT⟩ (zcX12_appends_69 l G cy ev _ ) (va_cwS 2 hT (good_S tb_1373 tb_1371 tb_1372 tb_122) rfl rfl rfl (by decide +kernel) ⟨Nat.le_of_ble_eq_true rfl, Nat.le_of_ble_eq_true rfl⟩) (PB.preS hK hE hS hA hP hD [] rfl (by decide)) rfl rfl hl.1 rfl (lv_room (Nat.le_of_ble_eq_true rfl)) dX12_word_19 ⟨Nat.le_of_ble_eq_true rfl, Nat.le_of_ble_eq_true rfl⟩) (fun r u H locs hw hP hD hS => ?_)
  obtain rfl : r = 374953 := hw
  obtain ⟨hP, hD⟩ : PD G A [] H := ⟨hP, hD⟩
  refine lv_iload hx hb dX12_word_22 (lv_at hl 5 rfl) ?_
  refine kc_l (W1 := []) (wr := []) [] [] rfl rfl (by decide) (by decide) hP hD hS hA (va_runS (As := [.long 374953, .int 0]) (rest := []) ⟨hx, hb, hml, hown, hT⟩ (zcX12_appends_69 l G cy ev _ ) (va_cwS 2 hT (good_S tb_1373 tb_1371 tb_1372 tb_122) rfl rfl rfl (by decide +kernel) ⟨Nat.le_of_ble_eq_true rfl, Nat.le_of_ble_eq_true rfl⟩) (PB.preS hK hE hS hA hP hD [] rfl (by decide)) rfl rfl hl.1 rfl (lv_room (Nat.le_of_ble_eq_true rfl)) dX12_word_24 ⟨Nat.le_of_ble_eq_true rfl, Nat.le_of_ble_eq_true rfl⟩) (fun r u H locs hw hP hD hS => ?_)
  obtain rfl : r = 374953 := hw
  obtain ⟨hP, hD⟩ : PD G A [] H := ⟨hP, hD⟩
  refine lv_iload hx hb dX12_word_27 (lv_at hl 6 rfl) ?_
  refine kc_l (W1 := []) (wr := []) [] [] rfl rfl (by decide) (by decide) hP hD hS hA (va_runS (As := [.long 374953, .int 0]) (rest := []) ⟨hx, hb, hml, hown, hT⟩ (zcX12_appends_69 l G cy ev _ ) (va_cwS 2 hT (good_S tb_1373 tb_1371 tb_1372 tb_122) rfl rfl rfl (by decide +kernel) ⟨Nat.le_of_ble_eq_true rfl, Nat.le_of_ble_eq_true rfl⟩) (PB.preS hK hE hS hA hP hD [] rfl (by decide)) rfl rfl hl.1 rfl (lv_room (Nat.le_of_ble_eq_true rfl)) dX12_word_29 ⟨Nat.le_of_ble_eq_true rfl, Nat.le_of_ble_eq_true rfl⟩) (fun r u H locs hw hP hD hS => ?_)
  obtain rfl : r = 374953 := hw
  obtain ⟨hP, hD⟩ : PD G A [] H := ⟨hP, hD⟩
  exact kr_l hx hb hr hlocks hP hD hS (u := (() : Unit)) rfl [] rfl (by decide) (Nat.le_of_ble_eq_true rfl) (Nat.le_of_ble_eq_true rfl) dX12_word_32

set_option maxRecDepth 100000 in
set_option maxHeartbeats 4000000 in
theorem zcX12_appends_70 (l : Launch) (G : va_G) (cy : Nat → ClassId) (ev : Ev) (sz : Nat)   : Met l yX12_appends (WS yX12_appends cX12_appends 3 (some .long)) { frames := 0, cells := 0, slots := 0, locals := 0 } (PB [.long 0, .int 109] sz G cy ev []) (QBl (S := Unit) (fun (r : Int64) (u : Unit) => r = 13) G (fun u => []) (va_A [] sz)) 0 0 (va_A [] sz) := by
  refine met_of (y := yX12_appends) (L := 3) (av := [.long 0, .int 109]) (Qc := fun A => QBl (S := Unit) (fun (r : Int64) (u : Unit) => r = 13) G (fun u => []) A) (by decide) (Nat.le_of_ble_eq_true rfl) ?_
  intro p e s m below meth c hx hb hr hml hown hT hlocks hin hK A hA hE hP hD hS ls hl
  have hown : s.vm.findClass "LieClockModel" = some m.cls := hown
  have hl : lv_has ls 3 [(0, .long 0), (2, .int 109)] := hl
  refine lv_iload_n hx hb dX12_appends_0 rfl (lv_at hl 1 rfl) ?_
  refine lv_if_ne (tgt := 8) hx hb dX12_appends_1 (by decide) (fun _ => ?_) (fun c => absurd c (by decide))
  refine lv_ldc2 (v := 27) hx hb hown (hT _ tb_1374) dX12_appends_8 ?_
  refine lv_lload_n hx hb dX12_appends_11 rfl (lv_at hl 0 rfl) ?_
  refine kx_lmul (v := 0) hx hb dX12_appends_12 (by decide) ?_
  refine lv_iload_n hx hb dX12_appends_13 rfl (lv_at hl 1 rfl) ?_
  refine lv_bipush (v := 97) hx hb dX12_appends_14 (by decide) ?_
  refine kx_isub (v := 12) hx hb dX12_appends_16 (by decide) ?_
  refine lv_iconst (v := 1) hx hb dX12_appends_17 (by decide) ?_
  refine kx_iadd (v := 13) hx hb dX12_appends_18 (by decide) ?_
  refine lv_i2l (v := 13) hx hb dX12_appends_19 (by decide) ?_
  refine kx_ladd (v := 13) hx hb dX12_appends_20 (by decide) ?_
  exact kr_l hx hb hr hlocks hP hD hS (u := (() : Unit)) rfl [] rfl (by decide) (Nat.le_of_ble_eq_true rfl) (Nat.le_of_ble_eq_true rfl) dX12_appends_21

set_option maxRecDepth 100000 in
set_option maxHeartbeats 4000000 in
theorem zcX12_appends_71 (l : Launch) (G : va_G) (cy : Nat → ClassId) (ev : Ev) (sz : Nat)   : Met l yX12_appends (WS yX12_appends cX12_appends 3 (some .long)) { frames := 0, cells := 0, slots := 0, locals := 0 } (PB [.long 13, .int 105] sz G cy ev []) (QBl (S := Unit) (fun (r : Int64) (u : Unit) => r = 360) G (fun u => []) (va_A [] sz)) 0 0 (va_A [] sz) := by
  refine met_of (y := yX12_appends) (L := 3) (av := [.long 13, .int 105]) (Qc := fun A => QBl (S := Unit) (fun (r : Int64) (u : Unit) => r = 360) G (fun u => []) A) (by decide) (Nat.le_of_ble_eq_true rfl) ?_
  intro p e s m below meth c hx hb hr hml hown hT hlocks hin hK A hA hE hP hD hS ls hl
  have hown : s.vm.findClass "LieClockModel" = some m.cls := hown
  have hl : lv_has ls 3 [(0, .long 13), (2, .int 105)] := hl
  refine lv_iload_n hx hb dX12_appends_0 rfl (lv_at hl 1 rfl) ?_
  refine lv_if_ne (tgt := 8) hx hb dX12_appends_1 (by decide) (fun _ => ?_) (fun c => absurd c (by decide))
  refine lv_ldc2 (v := 27) hx hb hown (hT _ tb_1374) dX12_appends_8 ?_
  refine lv_lload_n hx hb dX12_appends_11 rfl (lv_at hl 0 rfl) ?_
  refine kx_lmul (v := 351) hx hb dX12_appends_12 (by decide) ?_
  refine lv_iload_n hx hb dX12_appends_13 rfl (lv_at hl 1 rfl) ?_
  refine lv_bipush (v := 97) hx hb dX12_appends_14 (by decide) ?_
  refine kx_isub (v := 8) hx hb dX12_appends_16 (by decide) ?_
  refine lv_iconst (v := 1) hx hb dX12_appends_17 (by decide) ?_
  refine kx_iadd (v := 9) hx hb dX12_appends_18 (by decide) ?_
  refine lv_i2l (v := 9) hx hb dX12_appends_19 (by decide) ?_
  refine kx_ladd (v := 360) hx hb dX12_appends_20 (by decide) ?_
  exact kr_l hx hb hr hlocks hP hD hS (u := (() : Unit)) rfl [] rfl (by decide) (Nat.le_of_ble_eq_true rfl) (Nat.le_of_ble_eq_true rfl) dX12_appends_21

set_option maxRecDepth 100000 in
set_option maxHeartbeats 4000000 in
theorem zcX12_appends_72 (l : Launch) (G : va_G) (cy : Nat → ClassId) (ev : Ev) (sz : Nat)   : Met l yX12_appends (WS yX12_appends cX12_appends 3 (some .long)) { frames := 0, cells := 0, slots := 0, locals := 0 } (PB [.long 360, .int 110] sz G cy ev []) (QBl (S := Unit) (fun (r : Int64) (u : Unit) => r = 9734) G (fun u => []) (va_A [] sz)) 0 0 (va_A [] sz) := by
  refine met_of (y := yX12_appends) (L := 3) (av := [.long 360, .int 110]) (Qc := fun A => QBl (S := Unit) (fun (r : Int64) (u : Unit) => r = 9734) G (fun u => []) A) (by decide) (Nat.le_of_ble_eq_true rfl) ?_
  intro p e s m below meth c hx hb hr hml hown hT hlocks hin hK A hA hE hP hD hS ls hl
  have hown : s.vm.findClass "LieClockModel" = some m.cls := hown
  have hl : lv_has ls 3 [(0, .long 360), (2, .int 110)] := hl
  refine lv_iload_n hx hb dX12_appends_0 rfl (lv_at hl 1 rfl) ?_
  refine lv_if_ne (tgt := 8) hx hb dX12_appends_1 (by decide) (fun _ => ?_) (fun c => absurd c (by decide))
  refine lv_ldc2 (v := 27) hx hb hown (hT _ tb_1374) dX12_appends_8 ?_
  refine lv_lload_n hx hb dX12_appends_11 rfl (lv_at hl 0 rfl) ?_
  refine kx_lmul (v := 9720) hx hb dX12_appends_12 (by decide) ?_
  refine lv_iload_n hx hb dX12_appends_13 rfl (lv_at hl 1 rfl) ?_
  refine lv_bipush (v := 97) hx hb dX12_appends_14 (by decide) ?_
  refine kx_isub (v := 13) hx hb dX12_appends_16 (by decide) ?_
  refine lv_iconst (v := 1) hx hb dX12_appends_17 (by decide) ?_
  refine kx_iadd (v := 14) hx hb dX12_appends_18 (by decide) ?_
  refine lv_i2l (v := 14) hx hb dX12_appends_19 (by decide) ?_
  refine kx_ladd (v := 9734) hx hb dX12_appends_20 (by decide) ?_
  exact kr_l hx hb hr hlocks hP hD hS (u := (() : Unit)) rfl [] rfl (by decide) (Nat.le_of_ble_eq_true rfl) (Nat.le_of_ble_eq_true rfl) dX12_appends_21

set_option maxRecDepth 100000 in
set_option maxHeartbeats 4000000 in
theorem zcX12_appends_73 (l : Launch) (G : va_G) (cy : Nat → ClassId) (ev : Ev) (sz : Nat)   : Met l yX12_appends (WS yX12_appends cX12_appends 3 (some .long)) { frames := 0, cells := 0, slots := 0, locals := 0 } (PB [.long 9734, .int 117] sz G cy ev []) (QBl (S := Unit) (fun (r : Int64) (u : Unit) => r = 262839) G (fun u => []) (va_A [] sz)) 0 0 (va_A [] sz) := by
  refine met_of (y := yX12_appends) (L := 3) (av := [.long 9734, .int 117]) (Qc := fun A => QBl (S := Unit) (fun (r : Int64) (u : Unit) => r = 262839) G (fun u => []) A) (by decide) (Nat.le_of_ble_eq_true rfl) ?_
  intro p e s m below meth c hx hb hr hml hown hT hlocks hin hK A hA hE hP hD hS ls hl
  have hown : s.vm.findClass "LieClockModel" = some m.cls := hown
  have hl : lv_has ls 3 [(0, .long 9734), (2, .int 117)] := hl
  refine lv_iload_n hx hb dX12_appends_0 rfl (lv_at hl 1 rfl) ?_
  refine lv_if_ne (tgt := 8) hx hb dX12_appends_1 (by decide) (fun _ => ?_) (fun c => absurd c (by decide))
  refine lv_ldc2 (v := 27) hx hb hown (hT _ tb_1374) dX12_appends_8 ?_
  refine lv_lload_n hx hb dX12_appends_11 rfl (lv_at hl 0 rfl) ?_
  refine kx_lmul (v := 262818) hx hb dX12_appends_12 (by decide) ?_
  refine lv_iload_n hx hb dX12_appends_13 rfl (lv_at hl 1 rfl) ?_
  refine lv_bipush (v := 97) hx hb dX12_appends_14 (by decide) ?_
  refine kx_isub (v := 20) hx hb dX12_appends_16 (by decide) ?_
  refine lv_iconst (v := 1) hx hb dX12_appends_17 (by decide) ?_
  refine kx_iadd (v := 21) hx hb dX12_appends_18 (by decide) ?_
  refine lv_i2l (v := 21) hx hb dX12_appends_19 (by decide) ?_
  refine kx_ladd (v := 262839) hx hb dX12_appends_20 (by decide) ?_
  exact kr_l hx hb hr hlocks hP hD hS (u := (() : Unit)) rfl [] rfl (by decide) (Nat.le_of_ble_eq_true rfl) (Nat.le_of_ble_eq_true rfl) dX12_appends_21

set_option maxRecDepth 100000 in
set_option maxHeartbeats 4000000 in
theorem zcX12_appends_74 (l : Launch) (G : va_G) (cy : Nat → ClassId) (ev : Ev) (sz : Nat)   : Met l yX12_appends (WS yX12_appends cX12_appends 3 (some .long)) { frames := 0, cells := 0, slots := 0, locals := 0 } (PB [.long 262839, .int 116] sz G cy ev []) (QBl (S := Unit) (fun (r : Int64) (u : Unit) => r = 7096673) G (fun u => []) (va_A [] sz)) 0 0 (va_A [] sz) := by
  refine met_of (y := yX12_appends) (L := 3) (av := [.long 262839, .int 116]) (Qc := fun A => QBl (S := Unit) (fun (r : Int64) (u : Unit) => r = 7096673) G (fun u => []) A) (by decide) (Nat.le_of_ble_eq_true rfl) ?_
  intro p e s m below meth c hx hb hr hml hown hT hlocks hin hK A hA hE hP hD hS ls hl
  have hown : s.vm.findClass "LieClockModel" = some m.cls := hown
  have hl : lv_has ls 3 [(0, .long 262839), (2, .int 116)] := hl
  refine lv_iload_n hx hb dX12_appends_0 rfl (lv_at hl 1 rfl) ?_
  refine lv_if_ne (tgt := 8) hx hb dX12_appends_1 (by decide) (fun _ => ?_) (fun c => absurd c (by decide))
  refine lv_ldc2 (v := 27) hx hb hown (hT _ tb_1374) dX12_appends_8 ?_
  refine lv_lload_n hx hb dX12_appends_11 rfl (lv_at hl 0 rfl) ?_
  refine kx_lmul (v := 7096653) hx hb dX12_appends_12 (by decide) ?_
  refine lv_iload_n hx hb dX12_appends_13 rfl (lv_at hl 1 rfl) ?_
  refine lv_bipush (v := 97) hx hb dX12_appends_14 (by decide) ?_
  refine kx_isub (v := 19) hx hb dX12_appends_16 (by decide) ?_
  refine lv_iconst (v := 1) hx hb dX12_appends_17 (by decide) ?_
  refine kx_iadd (v := 20) hx hb dX12_appends_18 (by decide) ?_
  refine lv_i2l (v := 20) hx hb dX12_appends_19 (by decide) ?_
  refine kx_ladd (v := 7096673) hx hb dX12_appends_20 (by decide) ?_
  exact kr_l hx hb hr hlocks hP hD hS (u := (() : Unit)) rfl [] rfl (by decide) (Nat.le_of_ble_eq_true rfl) (Nat.le_of_ble_eq_true rfl) dX12_appends_21

set_option maxRecDepth 100000 in
set_option maxHeartbeats 4000000 in
theorem zcX12_appends_75 (l : Launch) (G : va_G) (cy : Nat → ClassId) (ev : Ev) (sz : Nat)   : Met l yX12_appends (WS yX12_appends cX12_appends 3 (some .long)) { frames := 0, cells := 0, slots := 0, locals := 0 } (PB [.long 7096673, .int 101] sz G cy ev []) (QBl (S := Unit) (fun (r : Int64) (u : Unit) => r = 191610176) G (fun u => []) (va_A [] sz)) 0 0 (va_A [] sz) := by
  refine met_of (y := yX12_appends) (L := 3) (av := [.long 7096673, .int 101]) (Qc := fun A => QBl (S := Unit) (fun (r : Int64) (u : Unit) => r = 191610176) G (fun u => []) A) (by decide) (Nat.le_of_ble_eq_true rfl) ?_
  intro p e s m below meth c hx hb hr hml hown hT hlocks hin hK A hA hE hP hD hS ls hl
  have hown : s.vm.findClass "LieClockModel" = some m.cls := hown
  have hl : lv_has ls 3 [(0, .long 7096673), (2, .int 101)] := hl
  refine lv_iload_n hx hb dX12_appends_0 rfl (lv_at hl 1 rfl) ?_
  refine lv_if_ne (tgt := 8) hx hb dX12_appends_1 (by decide) (fun _ => ?_) (fun c => absurd c (by decide))
  refine lv_ldc2 (v := 27) hx hb hown (hT _ tb_1374) dX12_appends_8 ?_
  refine lv_lload_n hx hb dX12_appends_11 rfl (lv_at hl 0 rfl) ?_
  refine kx_lmul (v := 191610171) hx hb dX12_appends_12 (by decide) ?_
  refine lv_iload_n hx hb dX12_appends_13 rfl (lv_at hl 1 rfl) ?_
  refine lv_bipush (v := 97) hx hb dX12_appends_14 (by decide) ?_
  refine kx_isub (v := 4) hx hb dX12_appends_16 (by decide) ?_
  refine lv_iconst (v := 1) hx hb dX12_appends_17 (by decide) ?_
  refine kx_iadd (v := 5) hx hb dX12_appends_18 (by decide) ?_
  refine lv_i2l (v := 5) hx hb dX12_appends_19 (by decide) ?_
  refine kx_ladd (v := 191610176) hx hb dX12_appends_20 (by decide) ?_
  exact kr_l hx hb hr hlocks hP hD hS (u := (() : Unit)) rfl [] rfl (by decide) (Nat.le_of_ble_eq_true rfl) (Nat.le_of_ble_eq_true rfl) dX12_appends_21

set_option maxRecDepth 100000 in
set_option maxHeartbeats 4000000 in
theorem zcX12_appends_76 (l : Launch) (G : va_G) (cy : Nat → ClassId) (ev : Ev) (sz : Nat)   : Met l yX12_appends (WS yX12_appends cX12_appends 3 (some .long)) { frames := 0, cells := 0, slots := 0, locals := 0 } (PB [.long 191610176, .int 0] sz G cy ev []) (QBl (S := Unit) (fun (r : Int64) (u : Unit) => r = 191610176) G (fun u => []) (va_A [] sz)) 0 0 (va_A [] sz) := by
  refine met_of (y := yX12_appends) (L := 3) (av := [.long 191610176, .int 0]) (Qc := fun A => QBl (S := Unit) (fun (r : Int64) (u : Unit) => r = 191610176) G (fun u => []) A) (by decide) (Nat.le_of_ble_eq_true rfl) ?_
  intro p e s m below meth c hx hb hr hml hown hT hlocks hin hK A hA hE hP hD hS ls hl
  have hown : s.vm.findClass "LieClockModel" = some m.cls := hown
  have hl : lv_has ls 3 [(0, .long 191610176), (2, .int 0)] := hl
  refine lv_iload_n hx hb dX12_appends_0 rfl (lv_at hl 1 rfl) ?_
  refine lv_if_ne (tgt := 8) hx hb dX12_appends_1 (by decide) (fun c => absurd (by decide) c) (fun _ => ?_)
  refine lv_lload_n hx hb dX12_appends_4 rfl (lv_at hl 0 rfl) ?_
  refine lv_goto (tgt := 21) hx hb dX12_appends_5 (by decide) ?_
  exact kr_l hx hb hr hlocks hP hD hS (u := (() : Unit)) rfl [] rfl (by decide) (Nat.le_of_ble_eq_true rfl) (Nat.le_of_ble_eq_true rfl) dX12_appends_21

set_option maxRecDepth 100000 in
set_option maxHeartbeats 4000000 in
theorem zcX12_word_16 (l : Launch) (G : va_G) (cy : Nat → ClassId) (ev : Ev) (sz : Nat)   : Met l yX12_word (WS yX12_word cX12_word 7 (some .long)) { frames := 1, cells := 0, slots := 0, locals := 22 } (PB [.int 109, .int 105, .int 110, .int 117, .int 116, .int 101, .int 0] sz G cy ev []) (QBl (S := Unit) (fun (r : Int64) (u : Unit) => r = 191610176) G (fun u => []) (va_A [] sz)) 0 0 (va_A [] sz) := by
  refine met_of (y := yX12_word) (L := 7) (av := [.int 109, .int 105, .int 110, .int 117, .int 116, .int 101, .int 0]) (Qc := fun A => QBl (S := Unit) (fun (r : Int64) (u : Unit) => r = 191610176) G (fun u => []) A) (by decide) (Nat.le_of_ble_eq_true rfl) ?_
  intro p e s m below meth c hx hb hr hml hown hT hlocks hin hK A hA hE hP hD hS ls hl
  have hown : s.vm.findClass "LieClockModel" = some m.cls := hown
  have hl : lv_has ls 7 [(0, .int 109), (1, .int 105), (2, .int 110), (3, .int 117), (4, .int 116), (5, .int 101), (6, .int 0)] := hl
  refine lv_lconst (v := 0) hx hb dX12_word_0 (by decide) ?_
  refine lv_iload_n hx hb dX12_word_1 rfl (lv_at hl 0 rfl) ?_
  refine kc_l (W1 := []) (wr := []) [] [] rfl rfl (by decide) (by decide) hP hD hS hA (va_runS (As := [.long 0, .int 109]) (rest := []) ⟨hx, hb, hml, hown, hT⟩ (zcX12_appends_70 l G cy ev _ ) (va_cwS 2 hT (good_S tb_1373 tb_1371 tb_1372 tb_122) rfl rfl rfl (by decide +kernel) ⟨Nat.le_of_ble_eq_true rfl, Nat.le_of_ble_eq_true rfl⟩) (PB.preS hK hE hS hA hP hD [] rfl (by decide)) rfl rfl hl.1 rfl (lv_room (Nat.le_of_ble_eq_true rfl)) dX12_word_2 ⟨Nat.le_of_ble_eq_true rfl, Nat.le_of_ble_eq_true rfl⟩) (fun r u H locs hw hP hD hS => ?_)
  obtain rfl : r = 13 := hw
  obtain ⟨hP, hD⟩ : PD G A [] H := ⟨hP, hD⟩
  refine lv_iload_n hx hb dX12_word_5 rfl (lv_at hl 1 rfl) ?_
  refine kc_l (W1 := []) (wr := []) [] [] rfl rfl (by decide) (by decide) hP hD hS hA (va_runS (As := [.long 13, .int 105]) (rest := []) ⟨hx, hb, hml, hown, hT⟩ (zcX12_appends_71 l G cy ev _ ) (va_cwS 2 hT (good_S tb_1373 tb_1371 tb_1372 tb_122) rfl rfl rfl (by decide +kernel) ⟨Nat.le_of_ble_eq_true rfl, Nat.le_of_ble_eq_true rfl⟩) (PB.preS hK hE hS hA hP hD [] rfl (by decide)) rfl rfl hl.1 rfl (lv_room (Nat.le_of_ble_eq_true rfl)) dX12_word_6 ⟨Nat.le_of_ble_eq_true rfl, Nat.le_of_ble_eq_true rfl⟩) (fun r u H locs hw hP hD hS => ?_)
  obtain rfl : r = 360 := hw
  obtain ⟨hP, hD⟩ : PD G A [] H := ⟨hP, hD⟩
  refine lv_iload_n hx hb dX12_word_9 rfl (lv_at hl 2 rfl) ?_
  refine kc_l (W1 := []) (wr := []) [] [] rfl rfl (by decide) (by decide) hP hD hS hA (va_runS (As := [.long 360, .int 110]) (rest := []) ⟨hx, hb, hml, hown, hT⟩ (zcX12_appends_72 l G cy ev _ ) (va_cwS 2 hT (good_S tb_1373 tb_1371 tb_1372 tb_122) rfl rfl rfl (by decide +kernel) ⟨Nat.le_of_ble_eq_true rfl, Nat.le_of_ble_eq_true rfl⟩) (PB.preS hK hE hS hA hP hD [] rfl (by decide)) rfl rfl hl.1 rfl (lv_room (Nat.le_of_ble_eq_true rfl)) dX12_word_10 ⟨Nat.le_of_ble_eq_true rfl, Nat.le_of_ble_eq_true rfl⟩) (fun r u H locs hw hP hD hS => ?_)
  obtain rfl : r = 9734 := hw
  obtain ⟨hP, hD⟩ : PD G A [] H := ⟨hP, hD⟩
  refine lv_iload_n hx hb dX12_word_13 rfl (lv_at hl 3 rfl) ?_
  refine kc_l (W1 := []) (wr := []) [] [] rfl rfl (by decide) (by decide) hP hD hS hA (va_runS (As := [.long 9734, .int 117]) (rest := []) ⟨hx, hb, hml, hown, hT⟩ (zcX12_appends_73 l G cy ev _ ) (va_cwS 2 hT (good_S tb_1373 tb_1371 tb_1372 tb_122) rfl rfl rfl (by decide +kernel) ⟨Nat.le_of_ble_eq_true rfl, Nat.le_of_ble_eq_true rfl⟩) (PB.preS hK hE hS hA hP hD [] rfl (by decide)) rfl rfl hl.1 rfl (lv_room (Nat.le_of_ble_eq_true rfl)) dX12_word_14 ⟨Nat.le_of_ble_eq_true rfl, Nat.le_of_ble_eq_true rfl⟩) (fun r u H locs hw hP hD hS => ?_)
  obtain rfl : r = 262839 := hw
  obtain ⟨hP, hD⟩ : PD G A [] H := ⟨hP, hD⟩
  refine lv_iload hx hb dX12_word_17 (lv_at hl 4 rfl) ?_
  refine kc_l (W1 := []) (wr := []) [] [] rfl rfl (by decide) (by decide) hP hD hS hA (va_runS (As := [.long 262839, .int 116]) (rest := []) ⟨hx, hb, hml, hown, hT⟩ (zcX12_appends_74 l G cy ev _ ) (va_cwS 2 hT (good_S tb_1373 tb_1371 tb_1372 tb_122) rfl rfl rfl (by decide +kernel) ⟨Nat.le_of_ble_eq_true rfl, Nat.le_of_ble_eq_true rfl⟩) (PB.preS hK hE hS hA hP hD [] rfl (by decide)) rfl rfl hl.1 rfl (lv_room (Nat.le_of_ble_eq_true rfl)) dX12_word_19 ⟨Nat.le_of_ble_eq_true rfl, Nat.le_of_ble_eq_true rfl⟩) (fun r u H locs hw hP hD hS => ?_)
  obtain rfl : r = 7096673 := hw
  obtain ⟨hP, hD⟩ : PD G A [] H := ⟨hP, hD⟩
  refine lv_iload hx hb dX12_word_22 (lv_at hl 5 rfl) ?_
  refine kc_l (W1 := []) (wr := []) [] [] rfl rfl (by decide) (by decide) hP hD hS hA (va_runS (As := [.long 7096673, .int 101]) (rest := []) ⟨hx, hb, hml, hown, hT⟩ (zcX12_appends_75 l G cy ev _ ) (va_cwS 2 hT (good_S tb_1373 tb_1371 tb_1372 tb_122) rfl rfl rfl (by decide +kernel) ⟨Nat.le_of_ble_eq_true rfl, Nat.le_of_ble_eq_true rfl⟩) (PB.preS hK hE hS hA hP hD [] rfl (by decide)) rfl rfl hl.1 rfl (lv_room (Nat.le_of_ble_eq_true rfl)) dX12_word_24 ⟨Nat.le_of_ble_eq_true rfl, Nat.le_of_ble_eq_true rfl⟩) (fun r u H locs hw hP hD hS => ?_)
  obtain rfl : r = 191610176 := hw
  obtain ⟨hP, hD⟩ : PD G A [] H := ⟨hP, hD⟩
  refine lv_iload hx hb dX12_word_27 (lv_at hl 6 rfl) ?_
  refine kc_l (W1 := []) (wr := []) [] [] rfl rfl (by decide) (by decide) hP hD hS hA (va_runS (As := [.long 191610176, .int 0]) (rest := []) ⟨hx, hb, hml, hown, hT⟩ (zcX12_appends_76 l G cy ev _ ) (va_cwS 2 hT (good_S tb_1373 tb_1371 tb_1372 tb_122) rfl rfl rfl (by decide +kernel) ⟨Nat.le_of_ble_eq_true rfl, Nat.le_of_ble_eq_true rfl⟩) (PB.preS hK hE hS hA hP hD [] rfl (by decide)) rfl rfl hl.1 rfl (lv_room (Nat.le_of_ble_eq_true rfl)) dX12_word_29 ⟨Nat.le_of_ble_eq_true rfl, Nat.le_of_ble_eq_true rfl⟩) (fun r u H locs hw hP hD hS => ?_)
  obtain rfl : r = 191610176 := hw
  obtain ⟨hP, hD⟩ : PD G A [] H := ⟨hP, hD⟩
  exact kr_l hx hb hr hlocks hP hD hS (u := (() : Unit)) rfl [] rfl (by decide) (Nat.le_of_ble_eq_true rfl) (Nat.le_of_ble_eq_true rfl) dX12_word_32

set_option maxRecDepth 100000 in
set_option maxHeartbeats 4000000 in
theorem zcX12_appends_77 (l : Launch) (G : va_G) (cy : Nat → ClassId) (ev : Ev) (sz : Nat)   : Met l yX12_appends (WS yX12_appends cX12_appends 3 (some .long)) { frames := 0, cells := 0, slots := 0, locals := 0 } (PB [.long 0, .int 104] sz G cy ev []) (QBl (S := Unit) (fun (r : Int64) (u : Unit) => r = 8) G (fun u => []) (va_A [] sz)) 0 0 (va_A [] sz) := by
  refine met_of (y := yX12_appends) (L := 3) (av := [.long 0, .int 104]) (Qc := fun A => QBl (S := Unit) (fun (r : Int64) (u : Unit) => r = 8) G (fun u => []) A) (by decide) (Nat.le_of_ble_eq_true rfl) ?_
  intro p e s m below meth c hx hb hr hml hown hT hlocks hin hK A hA hE hP hD hS ls hl
  have hown : s.vm.findClass "LieClockModel" = some m.cls := hown
  have hl : lv_has ls 3 [(0, .long 0), (2, .int 104)] := hl
  refine lv_iload_n hx hb dX12_appends_0 rfl (lv_at hl 1 rfl) ?_
  refine lv_if_ne (tgt := 8) hx hb dX12_appends_1 (by decide) (fun _ => ?_) (fun c => absurd c (by decide))
  refine lv_ldc2 (v := 27) hx hb hown (hT _ tb_1374) dX12_appends_8 ?_
  refine lv_lload_n hx hb dX12_appends_11 rfl (lv_at hl 0 rfl) ?_
  refine kx_lmul (v := 0) hx hb dX12_appends_12 (by decide) ?_
  refine lv_iload_n hx hb dX12_appends_13 rfl (lv_at hl 1 rfl) ?_
  refine lv_bipush (v := 97) hx hb dX12_appends_14 (by decide) ?_
  refine kx_isub (v := 7) hx hb dX12_appends_16 (by decide) ?_
  refine lv_iconst (v := 1) hx hb dX12_appends_17 (by decide) ?_
  refine kx_iadd (v := 8) hx hb dX12_appends_18 (by decide) ?_
  refine lv_i2l (v := 8) hx hb dX12_appends_19 (by decide) ?_
  refine kx_ladd (v := 8) hx hb dX12_appends_20 (by decide) ?_
  exact kr_l hx hb hr hlocks hP hD hS (u := (() : Unit)) rfl [] rfl (by decide) (Nat.le_of_ble_eq_true rfl) (Nat.le_of_ble_eq_true rfl) dX12_appends_21

set_option maxRecDepth 100000 in
set_option maxHeartbeats 4000000 in
theorem zcX12_appends_78 (l : Launch) (G : va_G) (cy : Nat → ClassId) (ev : Ev) (sz : Nat)   : Met l yX12_appends (WS yX12_appends cX12_appends 3 (some .long)) { frames := 0, cells := 0, slots := 0, locals := 0 } (PB [.long 8, .int 101] sz G cy ev []) (QBl (S := Unit) (fun (r : Int64) (u : Unit) => r = 221) G (fun u => []) (va_A [] sz)) 0 0 (va_A [] sz) := by
  refine met_of (y := yX12_appends) (L := 3) (av := [.long 8, .int 101]) (Qc := fun A => QBl (S := Unit) (fun (r : Int64) (u : Unit) => r = 221) G (fun u => []) A) (by decide) (Nat.le_of_ble_eq_true rfl) ?_
  intro p e s m below meth c hx hb hr hml hown hT hlocks hin hK A hA hE hP hD hS ls hl
  have hown : s.vm.findClass "LieClockModel" = some m.cls := hown
  have hl : lv_has ls 3 [(0, .long 8), (2, .int 101)] := hl
  refine lv_iload_n hx hb dX12_appends_0 rfl (lv_at hl 1 rfl) ?_
  refine lv_if_ne (tgt := 8) hx hb dX12_appends_1 (by decide) (fun _ => ?_) (fun c => absurd c (by decide))
  refine lv_ldc2 (v := 27) hx hb hown (hT _ tb_1374) dX12_appends_8 ?_
  refine lv_lload_n hx hb dX12_appends_11 rfl (lv_at hl 0 rfl) ?_
  refine kx_lmul (v := 216) hx hb dX12_appends_12 (by decide) ?_
  refine lv_iload_n hx hb dX12_appends_13 rfl (lv_at hl 1 rfl) ?_
  refine lv_bipush (v := 97) hx hb dX12_appends_14 (by decide) ?_
  refine kx_isub (v := 4) hx hb dX12_appends_16 (by decide) ?_
  refine lv_iconst (v := 1) hx hb dX12_appends_17 (by decide) ?_
  refine kx_iadd (v := 5) hx hb dX12_appends_18 (by decide) ?_
  refine lv_i2l (v := 5) hx hb dX12_appends_19 (by decide) ?_
  refine kx_ladd (v := 221) hx hb dX12_appends_20 (by decide) ?_
  exact kr_l hx hb hr hlocks hP hD hS (u := (() : Unit)) rfl [] rfl (by decide) (Nat.le_of_ble_eq_true rfl) (Nat.le_of_ble_eq_true rfl) dX12_appends_21

set_option maxRecDepth 100000 in
set_option maxHeartbeats 4000000 in
theorem zcX12_appends_79 (l : Launch) (G : va_G) (cy : Nat → ClassId) (ev : Ev) (sz : Nat)   : Met l yX12_appends (WS yX12_appends cX12_appends 3 (some .long)) { frames := 0, cells := 0, slots := 0, locals := 0 } (PB [.long 221, .int 97] sz G cy ev []) (QBl (S := Unit) (fun (r : Int64) (u : Unit) => r = 5968) G (fun u => []) (va_A [] sz)) 0 0 (va_A [] sz) := by
  refine met_of (y := yX12_appends) (L := 3) (av := [.long 221, .int 97]) (Qc := fun A => QBl (S := Unit) (fun (r : Int64) (u : Unit) => r = 5968) G (fun u => []) A) (by decide) (Nat.le_of_ble_eq_true rfl) ?_
  intro p e s m below meth c hx hb hr hml hown hT hlocks hin hK A hA hE hP hD hS ls hl
  have hown : s.vm.findClass "LieClockModel" = some m.cls := hown
  have hl : lv_has ls 3 [(0, .long 221), (2, .int 97)] := hl
  refine lv_iload_n hx hb dX12_appends_0 rfl (lv_at hl 1 rfl) ?_
  refine lv_if_ne (tgt := 8) hx hb dX12_appends_1 (by decide) (fun _ => ?_) (fun c => absurd c (by decide))
  refine lv_ldc2 (v := 27) hx hb hown (hT _ tb_1374) dX12_appends_8 ?_
  refine lv_lload_n hx hb dX12_appends_11 rfl (lv_at hl 0 rfl) ?_
  refine kx_lmul (v := 5967) hx hb dX12_appends_12 (by decide) ?_
  refine lv_iload_n hx hb dX12_appends_13 rfl (lv_at hl 1 rfl) ?_
  refine lv_bipush (v := 97) hx hb dX12_appends_14 (by decide) ?_
  refine kx_isub (v := 0) hx hb dX12_appends_16 (by decide) ?_
  refine lv_iconst (v := 1) hx hb dX12_appends_17 (by decide) ?_
  refine kx_iadd (v := 1) hx hb dX12_appends_18 (by decide) ?_
  refine lv_i2l (v := 1) hx hb dX12_appends_19 (by decide) ?_
  refine kx_ladd (v := 5968) hx hb dX12_appends_20 (by decide) ?_
  exact kr_l hx hb hr hlocks hP hD hS (u := (() : Unit)) rfl [] rfl (by decide) (Nat.le_of_ble_eq_true rfl) (Nat.le_of_ble_eq_true rfl) dX12_appends_21

set_option maxRecDepth 100000 in
set_option maxHeartbeats 4000000 in
theorem zcX12_appends_80 (l : Launch) (G : va_G) (cy : Nat → ClassId) (ev : Ev) (sz : Nat)   : Met l yX12_appends (WS yX12_appends cX12_appends 3 (some .long)) { frames := 0, cells := 0, slots := 0, locals := 0 } (PB [.long 5968, .int 114] sz G cy ev []) (QBl (S := Unit) (fun (r : Int64) (u : Unit) => r = 161154) G (fun u => []) (va_A [] sz)) 0 0 (va_A [] sz) := by
  refine met_of (y := yX12_appends) (L := 3) (av := [.long 5968, .int 114]) (Qc := fun A => QBl (S := Unit) (fun (r : Int64) (u : Unit) => r = 161154) G (fun u => []) A) (by decide) (Nat.le_of_ble_eq_true rfl) ?_
  intro p e s m below meth c hx hb hr hml hown hT hlocks hin hK A hA hE hP hD hS ls hl
  have hown : s.vm.findClass "LieClockModel" = some m.cls := hown
  have hl : lv_has ls 3 [(0, .long 5968), (2, .int 114)] := hl
  refine lv_iload_n hx hb dX12_appends_0 rfl (lv_at hl 1 rfl) ?_
  refine lv_if_ne (tgt := 8) hx hb dX12_appends_1 (by decide) (fun _ => ?_) (fun c => absurd c (by decide))
  refine lv_ldc2 (v := 27) hx hb hown (hT _ tb_1374) dX12_appends_8 ?_
  refine lv_lload_n hx hb dX12_appends_11 rfl (lv_at hl 0 rfl) ?_
  refine kx_lmul (v := 161136) hx hb dX12_appends_12 (by decide) ?_
  refine lv_iload_n hx hb dX12_appends_13 rfl (lv_at hl 1 rfl) ?_
  refine lv_bipush (v := 97) hx hb dX12_appends_14 (by decide) ?_
  refine kx_isub (v := 17) hx hb dX12_appends_16 (by decide) ?_
  refine lv_iconst (v := 1) hx hb dX12_appends_17 (by decide) ?_
  refine kx_iadd (v := 18) hx hb dX12_appends_18 (by decide) ?_
  refine lv_i2l (v := 18) hx hb dX12_appends_19 (by decide) ?_
  refine kx_ladd (v := 161154) hx hb dX12_appends_20 (by decide) ?_
  exact kr_l hx hb hr hlocks hP hD hS (u := (() : Unit)) rfl [] rfl (by decide) (Nat.le_of_ble_eq_true rfl) (Nat.le_of_ble_eq_true rfl) dX12_appends_21
