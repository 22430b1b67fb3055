set_option maxRecDepth 100000 in
set_option maxHeartbeats 4000000 in
theorem zcX12_appends_0 (l : Launch) (G : va_G) (cy : Nat → ClassId) (ev : Ev) (sz : Nat)   : Met l yX12_appends (WS yX12_appends cX12_appends 3 (some .long)) { frames := 0, cells := 0, slots := 0, locals := 0 } (PB [.long 0, .int 102] sz G cy ev []) (QBl (S := Unit) (fun (r : Int64) (u : Unit) => r = 6) G (fun u => []) (va_A [] sz)) 0 0 (va_A [] sz) := by
  refine met_of (y := yX12_appends) (L := 3) (av := [.long 0, .int 102]) (Qc := fun A => QBl (S := Unit) (fun (r : Int64) (u : Unit) => r = 6) G (fun u => []) A) (by decide) (Nat.le_of_ble_eq_true rfl) ?_
  intro p e s m below meth c hx hb hr hml hown hT hlocks hin hK A hA hE hP hD hS ls hl
  have hown : s.vm.findClass "LieClockModel" = some m.cls := hown
  have hl : lv_has ls 3 [(0, .long 0), (2, .int 102)] := hl
  refine lv_iload_n hx hb dX12_appends_0 rfl (lv_at hl 1 rfl) ?_
  refine lv_if_ne (tgt := 8) hx hb dX12_appends_1 (by decide) (fun _ => ?_) (fun c => absurd c (by decide))
  refine lv_ldc2 (v := 27) hx hb hown (hT _ tb_1374) dX12_appends_8 ?_
  refine lv_lload_n hx hb dX12_appends_11 rfl (lv_at hl 0 rfl) ?_
  refine kx_lmul (v := 0) hx hb dX12_appends_12 (by decide) ?_
  refine lv_iload_n hx hb dX12_appends_13 rfl (lv_at hl 1 rfl) ?_
  refine lv_bipush (v := 97) hx hb dX12_appends_14 (by decide) ?_
  refine kx_isub (v := 5) hx hb dX12_appends_16 (by decide) ?_
  refine lv_iconst (v := 1) hx hb dX12_appends_17 (by decide) ?_
  refine kx_iadd (v := 6) hx hb dX12_appends_18 (by decide) ?_
  refine lv_i2l (v := 6) hx hb dX12_appends_19 (by decide) ?_
  refine kx_ladd (v := 6) hx hb dX12_appends_20 (by decide) ?_
  exact kr_l hx hb hr hlocks hP hD hS (u := (() : Unit)) rfl [] rfl (by decide) (Nat.le_of_ble_eq_true rfl) (Nat.le_of_ble_eq_true rfl) dX12_appends_21

set_option maxRecDepth 100000 in
set_option maxHeartbeats 4000000 in
theorem zcX12_appends_1 (l : Launch) (G : va_G) (cy : Nat → ClassId) (ev : Ev) (sz : Nat)   : Met l yX12_appends (WS yX12_appends cX12_appends 3 (some .long)) { frames := 0, cells := 0, slots := 0, locals := 0 } (PB [.long 6, .int 97] sz G cy ev []) (QBl (S := Unit) (fun (r : Int64) (u : Unit) => r = 163) G (fun u => []) (va_A [] sz)) 0 0 (va_A [] sz) := by
  refine met_of (y := yX12_appends) (L := 3) (av := [.long 6, .int 97]) (Qc := fun A => QBl (S := Unit) (fun (r : Int64) (u : Unit) => r = 163) G (fun u => []) A) (by decide) (Nat.le_of_ble_eq_true rfl) ?_
  intro p e s m below meth c hx hb hr hml hown hT hlocks hin hK A hA hE hP hD hS ls hl
  have hown : s.vm.findClass "LieClockModel" = some m.cls := hown
  have hl : lv_has ls 3 [(0, .long 6), (2, .int 97)] := hl
  refine lv_iload_n hx hb dX12_appends_0 rfl (lv_at hl 1 rfl) ?_
  refine lv_if_ne (tgt := 8) hx hb dX12_appends_1 (by decide) (fun _ => ?_) (fun c => absurd c (by decide))
  refine lv_ldc2 (v := 27) hx hb hown (hT _ tb_1374) dX12_appends_8 ?_
  refine lv_lload_n hx hb dX12_appends_11 rfl (lv_at hl 0 rfl) ?_
  refine kx_lmul (v := 162) hx hb dX12_appends_12 (by decide) ?_
  refine lv_iload_n hx hb dX12_appends_13 rfl (lv_at hl 1 rfl) ?_
  refine lv_bipush (v := 97) hx hb dX12_appends_14 (by decide) ?_
  refine kx_isub (v := 0) hx hb dX12_appends_16 (by decide) ?_
  refine lv_iconst (v := 1) hx hb dX12_appends_17 (by decide) ?_
  refine kx_iadd (v := 1) hx hb dX12_appends_18 (by decide) ?_
  refine lv_i2l (v := 1) hx hb dX12_appends_19 (by decide) ?_
  refine kx_ladd (v := 163) hx hb dX12_appends_20 (by decide) ?_
  exact kr_l hx hb hr hlocks hP hD hS (u := (() : Unit)) rfl [] rfl (by decide) (Nat.le_of_ble_eq_true rfl) (Nat.le_of_ble_eq_true rfl) dX12_appends_21

set_option maxRecDepth 100000 in
set_option maxHeartbeats 4000000 in
theorem zcX12_appends_2 (l : Launch) (G : va_G) (cy : Nat → ClassId) (ev : Ev) (sz : Nat)   : Met l yX12_appends (WS yX12_appends cX12_appends 3 (some .long)) { frames := 0, cells := 0, slots := 0, locals := 0 } (PB [.long 163, .int 99] sz G cy ev []) (QBl (S := Unit) (fun (r : Int64) (u : Unit) => r = 4404) G (fun u => []) (va_A [] sz)) 0 0 (va_A [] sz) := by
  refine met_of (y := yX12_appends) (L := 3) (av := [.long 163, .int 99]) (Qc := fun A => QBl (S := Unit) (fun (r : Int64) (u : Unit) => r = 4404) G (fun u => []) A) (by decide) (Nat.le_of_ble_eq_true rfl) ?_
  intro p e s m below meth c hx hb hr hml hown hT hlocks hin hK A hA hE hP hD hS ls hl
  have hown : s.vm.findClass "LieClockModel" = some m.cls := hown
  have hl : lv_has ls 3 [(0, .long 163), (2, .int 99)] := hl
  refine lv_iload_n hx hb dX12_appends_0 rfl (lv_at hl 1 rfl) ?_
  refine lv_if_ne (tgt := 8) hx hb dX12_appends_1 (by decide) (fun _ => ?_) (fun c => absurd c (by decide))
  refine lv_ldc2 (v := 27) hx hb hown (hT _ tb_1374) dX12_appends_8 ?_
  refine lv_lload_n hx hb dX12_appends_11 rfl (lv_at hl 0 rfl) ?_
  refine kx_lmul (v := 4401) hx hb dX12_appends_12 (by decide) ?_
  refine lv_iload_n hx hb dX12_appends_13 rfl (lv_at hl 1 rfl) ?_
  refine lv_bipush (v := 97) hx hb dX12_appends_14 (by decide) ?_
  refine kx_isub (v := 2) hx hb dX12_appends_16 (by decide) ?_
  refine lv_iconst (v := 1) hx hb dX12_appends_17 (by decide) ?_
  refine kx_iadd (v := 3) hx hb dX12_appends_18 (by decide) ?_
  refine lv_i2l (v := 3) hx hb dX12_appends_19 (by decide) ?_
  refine kx_ladd (v := 4404) hx hb dX12_appends_20 (by decide) ?_
  exact kr_l hx hb hr hlocks hP hD hS (u := (() : Unit)) rfl [] rfl (by decide) (Nat.le_of_ble_eq_true rfl) (Nat.le_of_ble_eq_true rfl) dX12_appends_21

set_option maxRecDepth 100000 in
set_option maxHeartbeats 4000000 in
theorem zcX12_appends_3 (l : Launch) (G : va_G) (cy : Nat → ClassId) (ev : Ev) (sz : Nat)   : Met l yX12_appends (WS yX12_appends cX12_appends 3 (some .long)) { frames := 0, cells := 0, slots := 0, locals := 0 } (PB [.long 4404, .int 116] sz G cy ev []) (QBl (S := Unit) (fun (r : Int64) (u : Unit) => r = 118928) G (fun u => []) (va_A [] sz)) 0 0 (va_A [] sz) := by
  refine met_of (y := yX12_appends) (L := 3) (av := [.long 4404, .int 116]) (Qc := fun A => QBl (S := Unit) (fun (r : Int64) (u : Unit) => r = 118928) G (fun u => []) A) (by decide) (Nat.le_of_ble_eq_true rfl) ?_
  intro p e s m below meth c hx hb hr hml hown hT hlocks hin hK A hA hE hP hD hS ls hl
  have hown : s.vm.findClass "LieClockModel" = some m.cls := hown
  have hl : lv_has ls 3 [(0, .long 4404), (2, .int 116)] := hl
  refine lv_iload_n hx hb dX12_appends_0 rfl (lv_at hl 1 rfl) ?_
  refine lv_if_ne (tgt := 8) hx hb dX12_appends_1 (by decide) (fun _ => ?_) (fun c => absurd c (by decide))
  refine lv_ldc2 (v := 27) hx hb hown (hT _ tb_1374) dX12_appends_8 ?_
  refine lv_lload_n hx hb dX12_appends_11 rfl (lv_at hl 0 rfl) ?_
  refine kx_lmul (v := 118908) hx hb dX12_appends_12 (by decide) ?_
  refine lv_iload_n hx hb dX12_appends_13 rfl (lv_at hl 1 rfl) ?_
  refine lv_bipush (v := 97) hx hb dX12_appends_14 (by decide) ?_
  refine kx_isub (v := 19) hx hb dX12_appends_16 (by decide) ?_
  refine lv_iconst (v := 1) hx hb dX12_appends_17 (by decide) ?_
  refine kx_iadd (v := 20) hx hb dX12_appends_18 (by decide) ?_
  refine lv_i2l (v := 20) hx hb dX12_appends_19 (by decide) ?_
  refine kx_ladd (v := 118928) hx hb dX12_appends_20 (by decide) ?_
  exact kr_l hx hb hr hlocks hP hD hS (u := (() : Unit)) rfl [] rfl (by decide) (Nat.le_of_ble_eq_true rfl) (Nat.le_of_ble_eq_true rfl) dX12_appends_21

set_option maxRecDepth 100000 in
set_option maxHeartbeats 4000000 in
theorem zcX12_appends_4 (l : Launch) (G : va_G) (cy : Nat → ClassId) (ev : Ev) (sz : Nat)   : Met l yX12_appends (WS yX12_appends cX12_appends 3 (some .long)) { frames := 0, cells := 0, slots := 0, locals := 0 } (PB [.long 118928, .int 0] sz G cy ev []) (QBl (S := Unit) (fun (r : Int64) (u : Unit) => r = 118928) G (fun u => []) (va_A [] sz)) 0 0 (va_A [] sz) := by
  refine met_of (y := yX12_appends) (L := 3) (av := [.long 118928, .int 0]) (Qc := fun A => QBl (S := Unit) (fun (r : Int64) (u : Unit) => r = 118928) G (fun u => []) A) (by decide) (Nat.le_of_ble_eq_true rfl) ?_
  intro p e s m below meth c hx hb hr hml hown hT hlocks hin hK A hA hE hP hD hS ls hl
  have hown : s.vm.findClass "LieClockModel" = some m.cls := hown
  have hl : lv_has ls 3 [(0, .long 118928), (2, .int 0)] := hl
  refine lv_iload_n hx hb dX12_appends_0 rfl (lv_at hl 1 rfl) ?_
  refine lv_if_ne (tgt := 8) hx hb dX12_appends_1 (by decide) (fun c => absurd (by decide) c) (fun _ => ?_)
  refine lv_lload_n hx hb dX12_appends_4 rfl (lv_at hl 0 rfl) ?_
  refine lv_goto (tgt := 21) hx hb dX12_appends_5 (by decide) ?_
  exact kr_l hx hb hr hlocks hP hD hS (u := (() : Unit)) rfl [] rfl (by decide) (Nat.le_of_ble_eq_true rfl) (Nat.le_of_ble_eq_true rfl) dX12_appends_21

set_option maxRecDepth 100000 in
set_option maxHeartbeats 4000000 in
theorem zcX12_word_0 (l : Launch) (G : va_G) (cy : Nat → ClassId) (ev : Ev) (sz : Nat)   : Met l yX12_word (WS yX12_word cX12_word 7 (some .long)) { frames := 1, cells := 0, slots := 0, locals := 22 } (PB [.int 102, .int 97, .int 99, .int 116, .int 0, .int 0, .int 0] sz G cy ev []) (QBl (S := Unit) (fun (r : Int64) (u : Unit) => r = 118928) G (fun u => []) (va_A [] sz)) 0 0 (va_A [] sz) := by
  refine met_of (y := yX12_word) (L := 7) (av := [.int 102, .int 97, .int 99, .int 116, .int 0, .int 0, .int 0]) (Qc := fun A => QBl (S := Unit) (fun (r : Int64) (u : Unit) => r = 118928) G (fun u => []) A) (by decide) (Nat.le_of_ble_eq_true rfl) ?_
  intro p e s m below meth c hx hb hr hml hown hT hlocks hin hK A hA hE hP hD hS ls hl
  have hown : s.vm.findClass "LieClockModel" = some m.cls := hown
  have hl : lv_has ls 7 [(0, .int 102), (1, .int 97), (2, .int 99), (3, .int 116), (4, .int 0), (5, .int 0), (6, .int 0)] := hl
  refine lv_lconst (v := 0) hx hb dX12_word_0 (by decide) ?_
  refine lv_iload_n hx hb dX12_word_1 rfl (lv_at hl 0 rfl) ?_
  refine kc_l (W1 := []) (wr := []) [] [] rfl rfl (by decide) (by decide) hP hD hS hA (va_runS (As := [.long 0, .int 102]) (rest := []) ⟨hx, hb, hml, hown, hT⟩ (zcX12_appends_0 l G cy ev _ ) (va_cwS 2 hT (good_S tb_1373 tb_1371 tb_1372 tb_122) rfl rfl rfl (by decide +kernel) ⟨Nat.le_of_ble_eq_true rfl, Nat.le_of_ble_eq_true rfl⟩) (PB.preS hK hE hS hA hP hD [] rfl (by decide)) rfl rfl hl.1 rfl (lv_room (Nat.le_of_ble_eq_true rfl)) dX12_word_2 ⟨Nat.le_of_ble_eq_true rfl, Nat.le_of_ble_eq_true rfl⟩) (fun r u H locs hw hP hD hS => ?_)
  obtain rfl : r = 6 := hw
  obtain ⟨hP, hD⟩ : PD G A [] H := ⟨hP, hD⟩
  refine lv_iload_n hx hb dX12_word_5 rfl (lv_at hl 1 rfl) ?_
  refine kc_l (W1 := []) (wr := []) [] [] rfl rfl (by decide) (by decide) hP hD hS hA (va_runS (As := [.long 6, .int 97]) (rest := []) ⟨hx, hb, hml, hown, hT⟩ (zcX12_appends_1 l G cy ev _ ) (va_cwS 2 hT (good_S tb_1373 tb_1371 tb_1372 tb_122) rfl rfl rfl (by decide +kernel) ⟨Nat.le_of_ble_eq_true rfl, Nat.le_of_ble_eq_true rfl⟩) (PB.preS hK hE hS hA hP hD [] rfl (by decide)) rfl rfl hl.1 rfl (lv_room (Nat.le_of_ble_eq_true rfl)) dX12_word_6 ⟨Nat.le_of_ble_eq_true rfl, Nat.le_of_ble_eq_true rfl⟩) (fun r u H locs hw hP hD hS => ?_)
  obtain rfl : r = 163 := hw
  obtain ⟨hP, hD⟩ : PD G A [] H := ⟨hP, hD⟩
  refine lv_iload_n hx hb dX12_word_9 rfl (lv_at hl 2 rfl) ?_
  refine kc_l (W1 := []) (wr := []) [] [] rfl rfl (by decide) (by decide) hP hD hS hA (va_runS (As := [.long 163, .int 99]) (rest := []) ⟨hx, hb, hml, hown, hT⟩ (zcX12_appends_2 l G cy ev _ ) (va_cwS 2 hT (good_S tb_1373 tb_1371 tb_1372 tb_122) rfl rfl rfl (by decide +kernel) ⟨Nat.le_of_ble_eq_true rfl, Nat.le_of_ble_eq_true rfl⟩) (PB.preS hK hE hS hA hP hD [] rfl (by decide)) rfl rfl hl.1 rfl (lv_room (Nat.le_of_ble_eq_true rfl)) dX12_word_10 ⟨Nat.le_of_ble_eq_true rfl, Nat.le_of_ble_eq_true rfl⟩) (fun r u H locs hw hP hD hS => ?_)
  obtain rfl : r = 4404 := hw
  obtain ⟨hP, hD⟩ : PD G A [] H := ⟨hP, hD⟩
  refine lv_iload_n hx hb dX12_word_13 rfl (lv_at hl 3 rfl) ?_
  refine kc_l (W1 := []) (wr := []) [] [] rfl rfl (by decide) (by decide) hP hD hS hA (va_runS (As := [.long 4404, .int 116]) (rest := []) ⟨hx, hb, hml, hown, hT⟩ (zcX12_appends_3 l G cy ev _ ) (va_cwS 2 hT (good_S tb_1373 tb_1371 tb_1372 tb_122) rfl rfl rfl (by decide +kernel) ⟨Nat.le_of_ble_eq_true rfl, Nat.le_of_ble_eq_true rfl⟩) (PB.preS hK hE hS hA hP hD [] rfl (by decide)) rfl rfl hl.1 rfl (lv_room (Nat.le_of_ble_eq_true rfl)) dX12_word_14 ⟨Nat.le_of_ble_eq_true rfl, Nat.le_of_ble_eq_true rfl⟩) (fun r u H locs hw hP hD hS => ?_)
  obtain rfl : r = 118928 := hw
  obtain ⟨hP, hD⟩ : PD G A [] H := ⟨hP, hD⟩
  refine lv_iload hx hb dX12_word_17 (lv_at hl 4 rfl) ?_
  refine kc_l (W1 := []) (wr := []) [] [] rfl rfl (by decide) (by decide) hP hD hS hA (va_runS (As := [.long 118928, .int 0]) (rest := []) ⟨hx, hb, hml, hown, hT⟩ (zcX12_appends_4 l G cy ev _ ) (va_cwS 2 hT (good_S tb_1373 tb_1371 tb_1372 tb_122) rfl rfl rfl (by decide +kernel) ⟨Nat.le_of_ble_eq_true rfl, Nat.le_of_ble_eq_true rfl⟩) (PB.preS hK hE hS hA hP hD [] rfl (by decide)) rfl rfl hl.1 rfl (lv_room (Nat.le_of_ble_eq_true rfl)) dX12_word_19 ⟨Nat.le_of_ble_eq_true rfl, Nat.le_of_ble_eq_true rfl⟩) (fun r u H locs hw hP hD hS => ?_)
  obtain rfl : r = 118928 := hw
  obtain ⟨hP, hD⟩ : PD G A [] H := ⟨hP, hD⟩
  refine lv_iload hx hb dX12_word_22 (lv_at hl 5 rfl) ?_
  refine kc_l (W1 := []) (wr := []) [] [] rfl rfl (by decide) (by decide) hP hD hS hA (va_runS (As := [.long 118928, .int 0]) (rest := []) ⟨hx, hb, hml, hown, hT⟩ (zcX12_appends_4 l G cy ev _ ) (va_cwS 2 hT (good_S tb_1373 tb_1371 tb_1372 tb_122) rfl rfl rfl (by decide +kernel) ⟨Nat.le_of_ble_eq_true rfl, Nat.le_of_ble_eq_true rfl⟩) (PB.preS hK hE hS hA hP hD [] rfl (by decide)) rfl rfl hl.1 rfl (lv_room (Nat.le_of_ble_eq_true rfl)) dX12_word_24 ⟨Nat.le_of_ble_eq_true rfl, Nat.le_of_ble_eq_true rfl⟩) (fun r u H locs hw hP hD hS => ?_)
  obtain rfl : r = 118928 := hw
  obtain ⟨hP, hD⟩ : PD G A [] H := ⟨hP, hD⟩
  refine lv_iload hx hb dX12_word_27 (lv_at hl 6 rfl) ?_
  refine kc_l (W1 := []) (wr := []) [] [] rfl rfl (by decide) (by decide) hP hD hS hA (va_runS (As := [.long 118928, .int 0]) (rest := []) ⟨hx, hb, hml, hown, hT⟩ (zcX12_appends_4 l G cy ev _ ) (va_cwS 2 hT (good_S tb_1373 tb_1371 tb_1372 tb_122) rfl rfl rfl (by decide +kernel) ⟨Nat.le_of_ble_eq_true rfl, Nat.le_of_ble_eq_true rfl⟩) (PB.preS hK hE hS hA hP hD [] rfl (by decide)) rfl rfl hl.1 rfl (lv_room (Nat.le_of_ble_eq_true rfl)) dX12_word_29 ⟨Nat.le_of_ble_eq_true rfl, Nat.le_of_ble_eq_true rfl⟩) (fun r u H locs hw hP hD hS => ?_)
  obtain rfl : r = 118928 := hw
  obtain ⟨hP, hD⟩ : PD G A [] H := ⟨hP, hD⟩
  exact kr_l hx hb hr hlocks hP hD hS (u := (() : Unit)) rfl [] rfl (by decide) (Nat.le_of_ble_eq_true rfl) (Nat.le_of_ble_eq_true rfl) dX12_word_32

set_option maxRecDepth 100000 in
set_option maxHeartbeats 4000000 in
theorem zcX12_appends_5 (l : Launch) (G : va_G) (cy : Nat → ClassId) (ev : Ev) (sz : Nat)   : Met l yX12_appends (WS yX12_appends cX12_appends 3 (some .long)) { frames := 0, cells := 0, slots := 0, locals := 0 } (PB [.long 0, .int 121] sz G cy ev []) (QBl (S := Unit) (fun (r : Int64) (u : Unit) => r = 25) G (fun u => []) (va_A [] sz)) 0 0 (va_A [] sz) := by
  refine met_of (y := yX12_appends) (L := 3) (av := [.long 0, .int 121]) (Qc := fun A => QBl (S := Unit) (fun (r : Int64) (u : Unit) => r = 25) G (fun u => []) A) (by decide) (Nat.le_of_ble_eq_true rfl) ?_
  intro p e s m below meth c hx hb hr hml hown hT hlocks hin hK A hA hE hP hD hS ls hl
  have hown : s.vm.findClass "LieClockModel" = some m.cls := hown
  have hl : lv_has ls 3 [(0, .long 0), (2, .int 121)] := hl
  refine lv_iload_n hx hb dX12_appends_0 rfl (lv_at hl 1 rfl) ?_
  refine lv_if_ne (tgt := 8) hx hb dX12_appends_1 (by decide) (fun _ => ?_) (fun c => absurd c (by decide))
  refine lv_ldc2 (v := 27) hx hb hown (hT _ tb_1374) dX12_appends_8 ?_
  refine lv_lload_n hx hb dX12_appends_11 rfl (lv_at hl 0 rfl) ?_
  refine kx_lmul (v := 0) hx hb dX12_appends_12 (by decide) ?_
  refine lv_iload_n hx hb dX12_appends_13 rfl (lv_at hl 1 rfl) ?_
  refine lv_bipush (v := 97) hx hb dX12_appends_14 (by decide) ?_
  refine kx_isub (v := 24) hx hb dX12_appends_16 (by decide) ?_
  refine lv_iconst (v := 1) hx hb dX12_appends_17 (by decide) ?_
  refine kx_iadd (v := 25) hx hb dX12_appends_18 (by decide) ?_
  refine lv_i2l (v := 25) hx hb dX12_appends_19 (by decide) ?_
  refine kx_ladd (v := 25) hx hb dX12_appends_20 (by decide) ?_
  exact kr_l hx hb hr hlocks hP hD hS (u := (() : Unit)) rfl [] rfl (by decide) (Nat.le_of_ble_eq_true rfl) (Nat.le_of_ble_eq_true rfl) dX12_appends_21

set_option maxRecDepth 100000 in
set_option maxHeartbeats 4000000 in
theorem zcX12_appends_6 (l : Launch) (G : va_G) (cy : Nat → ClassId) (ev : Ev) (sz : Nat)   : Met l yX12_appends (WS yX12_appends cX12_appends 3 (some .long)) { frames := 0, cells := 0, slots := 0, locals := 0 } (PB [.long 25, .int 101] sz G cy ev []) (QBl (S := Unit) (fun (r : Int64) (u : Unit) => r = 680) G (fun u => []) (va_A [] sz)) 0 0 (va_A [] sz) := by
  refine met_of (y := yX12_appends) (L := 3) (av := [.long 25, .int 101]) (Qc := fun A => QBl (S := Unit) (fun (r : Int64) (u : Unit) => r = 680) G (fun u => []) A) (by decide) (Nat.le_of_ble_eq_true rfl) ?_
  intro p e s m below meth c hx hb hr hml hown hT hlocks hin hK A hA hE hP hD hS ls hl
  have hown : s.vm.findClass "LieClockModel" = some m.cls := hown
  have hl : lv_has ls 3 [(0, .long 25), (2, .int 101)] := hl
  refine lv_iload_n hx hb dX12_appends_0 rfl (lv_at hl 1 rfl) ?_
  refine lv_if_ne (tgt := 8) hx hb dX12_appends_1 (by decide) (fun _ => ?_) (fun c => absurd c (by decide))
  refine lv_ldc2 (v := 27) hx hb hown (hT _ tb_1374) dX12_appends_8 ?_
  refine lv_lload_n hx hb dX12_appends_11 rfl (lv_at hl 0 rfl) ?_
  refine kx_lmul (v := 675) hx hb dX12_appends_12 (by decide) ?_
  refine lv_iload_n hx hb dX12_appends_13 rfl (lv_at hl 1 rfl) ?_
  refine lv_bipush (v := 97) hx hb dX12_appends_14 (by decide) ?_
  refine kx_isub (v := 4) hx hb dX12_appends_16 (by decide) ?_
  refine lv_iconst (v := 1) hx hb dX12_appends_17 (by decide) ?_
  refine kx_iadd (v := 5) hx hb dX12_appends_18 (by decide) ?_
  refine lv_i2l (v := 5) hx hb dX12_appends_19 (by decide) ?_
  refine kx_ladd (v := 680) hx hb dX12_appends_20 (by decide) ?_
  exact kr_l hx hb hr hlocks hP hD hS (u := (() : Unit)) rfl [] rfl (by decide) (Nat.le_of_ble_eq_true rfl) (Nat.le_of_ble_eq_true rfl) dX12_appends_21

set_option maxRecDepth 100000 in
set_option maxHeartbeats 4000000 in
theorem zcX12_appends_7 (l : Launch) (G : va_G) (cy : Nat → ClassId) (ev : Ev) (sz : Nat)   : Met l yX12_appends (WS yX12_appends cX12_appends 3 (some .long)) { frames := 0, cells := 0, slots := 0, locals := 0 } (PB [.long 680, .int 115] sz G cy ev []) (QBl (S := Unit) (fun (r : Int64) (u : Unit) => r = 18379) G (fun u => []) (va_A [] sz)) 0 0 (va_A [] sz) := by
  refine met_of (y := yX12_appends) (L := 3) (av := [.long 680, .int 115]) (Qc := fun A => QBl (S := Unit) (fun (r : Int64) (u : Unit) => r = 18379) G (fun u => []) A) (by decide) (Nat.le_of_ble_eq_true rfl) ?_
  intro p e s m below meth c hx hb hr hml hown hT hlocks hin hK A hA hE hP hD hS ls hl
  have hown : s.vm.findClass "LieClockModel" = some m.cls := hown
  have hl : lv_has ls 3 [(0, .long 680), (2, .int 115)] := hl
  refine lv_iload_n hx hb dX12_appends_0 rfl (lv_at hl 1 rfl) ?_
  refine lv_if_ne (tgt := 8) hx hb dX12_appends_1 (by decide) (fun _ => ?_) (fun c => absurd c (by decide))
  refine lv_ldc2 (v := 27) hx hb hown (hT _ tb_1374) dX12_appends_8 ?_
  refine lv_lload_n hx hb dX12_appends_11 rfl (lv_at hl 0 rfl) ?_
  refine kx_lmul (v := 18360) hx hb dX12_appends_12 (by decide) ?_
  refine lv_iload_n hx hb dX12_appends_13 rfl (lv_at hl 1 rfl) ?_
  refine lv_bipush (v := 97) hx hb dX12_appends_14 (by decide) ?_
  refine kx_isub (v := 18) hx hb dX12_appends_16 (by decide) ?_
  refine lv_iconst (v := 1) hx hb dX12_appends_17 (by decide) ?_
  refine kx_iadd (v := 19) hx hb dX12_appends_18 (by decide) ?_
  refine lv_i2l (v := 19) hx hb dX12_appends_19 (by decide) ?_
  refine kx_ladd (v := 18379) hx hb dX12_appends_20 (by decide) ?_
  exact kr_l hx hb hr hlocks hP hD hS (u := (() : Unit)) rfl [] rfl (by decide) (Nat.le_of_ble_eq_true rfl) (Nat.le_of_ble_eq_true rfl) dX12_appends_21

set_option maxRecDepth 100000 in
set_option maxHeartbeats 4000000 in
theorem zcX12_appends_8 (l : Launch) (G : va_G) (cy : Nat → ClassId) (ev : Ev) (sz : Nat)   : Met l yX12_appends (WS yX12_appends cX12_appends 3 (some .long)) { frames := 0, cells := 0, slots := 0, locals := 0 } (PB [.long 18379, .int 0] sz G cy ev []) (QBl (S := Unit) (fun (r : Int64) (u : Unit) => r = 18379) G (fun u => []) (va_A [] sz)) 0 0 (va_A [] sz) := by
  refine met_of (y := yX12_appends) (L := 3) (av := [.long 18379, .int 0]) (Qc := fun A => QBl (S := Unit) (fun (r : Int64) (u : Unit) => r = 18379) G (fun u => []) A) (by decide) (Nat.le_of_ble_eq_true rfl) ?_
  intro p e s m below meth c hx hb hr hml hown hT hlocks hin hK A hA hE hP hD hS ls hl
  have hown : s.vm.findClass "LieClockModel" = some m.cls := hown
  have hl : lv_has ls 3 [(0, .long 18379), (2, .int 0)] := hl
  refine lv_iload_n hx hb dX12_appends_0 rfl (lv_at hl 1 rfl) ?_
  refine lv_if_ne (tgt := 8) hx hb dX12_appends_1 (by decide) (fun c => absurd (by decide) c) (fun _ => ?_)
  refine lv_lload_n hx hb dX12_appends_4 rfl (lv_at hl 0 rfl) ?_
  refine lv_goto (tgt := 21) hx hb dX12_appends_5 (by decide) ?_
  exact kr_l hx hb hr hlocks hP hD hS (u := (() : Unit)) rfl [] rfl (by decide) (Nat.le_of_ble_eq_true rfl) (Nat.le_of_ble_eq_true rfl) dX12_appends_21

set_option maxRecDepth 100000 in
set_option maxHeartbeats 4000000 in
theorem zcX12_word_1 (l : Launch) (G : va_G) (cy : Nat → ClassId) (ev : Ev) (sz : Nat)   : Met l yX12_word (WS yX12_word cX12_word 7 (some .long)) { frames := 1, cells := 0, slots := 0, locals := 22 } (PB [.int 121, .int 101, .int 115, .int 0, .int 0, .int 0, .int 0] sz G cy ev []) (QBl (S := Unit) (fun (r : Int64) (u : Unit) => r = 18379) G (fun u => []) (va_A [] sz)) 0 0 (va_A [] sz) := by
  refine met_of (y := yX12_word) (L := 7) (av := [.int 121, .int 101, .int 115, .int 0, .int 0, .int 0, .int 0]) (Qc := fun A => QBl (S := Unit) (fun (r : Int64) (u : Unit) => r = 18379) G (fun u => []) A) (by decide) (Nat.le_of_ble_eq_true rfl) ?_
  intro p e s m below meth c hx hb hr hml hown hT hlocks hin hK A hA hE hP hD hS ls hl
  have hown : s.vm.findClass "LieClockModel" = some m.cls := hown
  have hl : lv_has ls 7 [(0, .int 121), (1, .int 101), (2, .int 115), (3, .int 0), (4, .int 0), (5, .int 0), (6, .int 0)] := hl
  refine lv_lconst (v := 0) hx hb dX12_word_0 (by decide) ?_
  refine lv_iload_n hx hb dX12_word_1 rfl (lv_at hl 0 rfl) ?_
  refine kc_l (W1 := []) (wr := []) [] [] rfl rfl (by decide) (by decide) hP hD hS hA (va_runS (As := [.long 0, .int 121]) (rest := []) ⟨hx, hb, hml, hown, hT⟩ (zcX12_appends_5 l G cy ev _ ) (va_cwS 2 hT (good_S tb_1373 tb_1371 tb_1372 tb_122) rfl rfl rfl (by decide +kernel) ⟨Nat.le_of_ble_eq_true rfl, Nat.le_of_ble_eq_true rfl⟩) (PB.preS hK hE hS hA hP hD [] rfl (by decide)) rfl rfl hl.1 rfl (lv_room (Nat.le_of_ble_eq_true rfl)) dX12_word_2 ⟨Nat.le_of_ble_eq_true rfl, Nat.le_of_ble_eq_true rfl⟩) (fun r u H locs hw hP hD hS => ?_)
  obtain rfl : r = 25 := hw
  obtain ⟨hP, hD⟩ : PD G A [] H := ⟨hP, hD⟩
  refine lv_iload_n hx hb dX12_word_5 rfl (lv_at hl 1 rfl) ?_
  refine kc_l (W1 := []) (wr := []) [] [] rfl rfl (by decide) (by decide) hP hD hS hA (va_runS (As := [.long 25, .int 101]) (rest := []) ⟨hx, hb, hml, hown, hT⟩ (zcX12_appends_6 l G cy ev _ ) (va_cwS 2 hT (good_S tb_1373 tb_1371 tb_1372 tb_122) rfl rfl rfl (by decide +kernel) ⟨Nat.le_of_ble_eq_true rfl, Nat.le_of_ble_eq_true rfl⟩) (PB.preS hK hE hS hA hP hD [] rfl (by decide)) rfl rfl hl.1 rfl (lv_room (Nat.le_of_ble_eq_true rfl)) dX12_word_6 ⟨Nat.le_of_ble_eq_true rfl, Nat.le_of_ble_eq_true rfl⟩) (fun r u H locs hw hP hD hS => ?_)
  obtain rfl : r = 680 := hw
  obtain ⟨hP, hD⟩ : PD G A [] H := ⟨hP, hD⟩
  refine lv_iload_n hx hb dX12_word_9 rfl (lv_at hl 2 rfl) ?_
  refine kc_l (W1 := []) (wr := []) [] [] rfl rfl (by decide) (by decide) hP hD hS hA (va_runS (As := [.long 680, .int 115]) (rest := []) ⟨hx, hb, hml, hown, hT⟩ (zcX12_appends_7 l G cy ev _ ) (va_cwS 2 hT (good_S tb_1373 tb_1371 tb_1372 tb_122) rfl rfl rfl (by decide +kernel) ⟨Nat.le_of_ble_eq_true rfl, Nat.le_of_ble_eq_true rfl⟩) (PB.preS hK hE hS hA hP hD [] rfl (by decide)) rfl rfl hl.1 rfl (lv_room (Nat.le_of_ble_eq_true rfl)) dX12_word_10 ⟨Nat.le_of_ble_eq_true rfl, Nat.le_of_ble_eq_true rfl⟩) (fun r u H locs hw hP hD hS => ?_)
  obtain rfl : r = 18379 := hw
  obtain ⟨hP, hD⟩ : PD G A [] H := ⟨hP, hD⟩
  refine lv_iload_n hx hb dX12_word_13 rfl (lv_at hl 3 rfl) ?_
  refine kc_l (W1 := []) (wr := []) [] [] rfl rfl (by decide) (by decide) hP hD hS hA (va_runS (As := [.long 18379, .int 0]) (rest := []) ⟨hx, hb, hml, hown, hT⟩ (zcX12_appends_8 l G cy ev _ ) (va_cwS 2 hT (good_S tb_1373 tb_1371 tb_1372 tb_122) rfl rfl rfl (by decide +kernel) ⟨Nat.le_of_ble_eq_true rfl, Nat.le_of_ble_eq_true rfl⟩) (PB.preS hK hE hS hA hP hD [] rfl (by decide)) rfl rfl hl.1 rfl (lv_room (Nat.le_of_ble_eq_true rfl)) dX12_word_14 ⟨Nat.le_of_ble_eq_true rfl, Nat.le_of_ble_eq_true rfl⟩) (fun r u H locs hw hP hD hS => ?_)
  obtain rfl : r = 18379 := hw
  obtain ⟨hP, hD⟩ : PD G A [] H := ⟨hP, hD⟩
  refine lv_iload hx hb dX12_word_17 (lv_at hl 4 rfl) ?_
  refine kc_l (W1 := []) (wr := []) [] [] rfl rfl (by decide) (by decide) hP hD hS hA (va_runS (As := [.long 18379, .int 0]) (rest := []) ⟨hx, hb, hml, hown, hT⟩ (zcX12_appends_8 l G cy ev _ ) (va_cwS 2 hT (good_S tb_1373 tb_1371 tb_1372 tb_122) rfl rfl rfl (by decide +kernel) ⟨Nat.le_of_ble_eq_true rfl, Nat.le_of_ble_eq_true rfl⟩) (PB.preS hK hE hS hA hP hD [] rfl (by decide)) rfl rfl hl.1 rfl (lv_room (Nat.le_of_ble_eq_true rfl)) dX12_word_19 ⟨Nat.le_of_ble_eq_true rfl, Nat.le_of_ble_eq_true rfl⟩) (fun r u H locs hw hP hD hS => ?_)
  obtain rfl : r = 18379 := hw
  obtain ⟨hP, hD⟩ : PD G A [] H := ⟨hP, hD⟩
  refine lv_iload hx hb dX12_word_22 (lv_at hl 5 rfl) ?_
  refine kc_l (W1 := []) (wr := []) [] [] rfl rfl (by decide) (by decide) hP hD hS hA (va_runS (As := [.long 18379, .int 0]) (rest := []) ⟨hx, hb, hml, hown, hT⟩ (zcX12_appends_8 l G cy ev _ ) (va_cwS 2 hT (good_S tb_1373 tb_1371 tb_1372 tb_122) rfl rfl rfl (by decide +kernel) ⟨Nat.le_of_ble_eq_true rfl, Nat.le_of_ble_eq_true rfl⟩) (PB.preS hK hE hS hA hP hD [] rfl (by decide)) rfl rfl hl.1 rfl (lv_room (Nat.le_of_ble_eq_true rfl)) dX12_word_24 ⟨Nat.le_of_ble_eq_true rfl, Nat.le_of_ble_eq_true rfl⟩) (fun r u H locs hw hP hD hS => ?_)
  obtain rfl : r = 18379 := hw
  obtain ⟨hP, hD⟩ : PD G A [] H := ⟨hP, hD⟩
  refine lv_iload hx hb dX12_word_27 (lv_at hl 6 rfl) ?_
  refine kc_l (W1 := []) (wr := []) [] [] rfl rfl (by decide) (by decide) hP hD hS hA (va_runS (As := [.long 18379, .int 0]) (rest := []) ⟨hx, hb, hml, hown, hT⟩ (zcX12_appends_8 l G cy ev _ ) (va_cwS 2 hT (good_S tb_1373 tb_1371 tb_1372 tb_122) rfl rfl rfl (by decide +kernel) ⟨Nat.le_of_ble_eq_true rfl, Nat.le_of_ble_eq_true rfl⟩) (PB.preS hK hE hS hA hP hD [] rfl (by decide)) rfl rfl hl.1 rfl (lv_room (Nat.le_of_ble_eq_true rfl)) dX12_word_29 ⟨Nat.le_of_ble_eq_true rfl, Nat.le_of_ble_eq_true rfl⟩) (fun r u H locs hw hP hD hS => ?_)
  obtain rfl : r = 18379 := hw
  obtain ⟨hP, hD⟩ : PD G A [] H := ⟨hP, hD⟩
  exact kr_l hx hb hr hlocks hP hD hS (u := (() : Unit)) rfl [] rfl (by decide) (Nat.le_of_ble_eq_true rfl) (Nat.le_of_ble_eq_true rfl) dX12_word_32

set_option maxRecDepth 100000 in
set_option maxHeartbeats 4000000 in
theorem zcX12_appends_9 (l : Launch) (G : va_G) (cy : Nat → ClassId) (ev : Ev) (sz : Nat)   : Met l yX12_appends (WS yX12_appends cX12_appends 3 (some .long)) { frames := 0, cells := 0, slots := 0, locals := 0 } (PB [.long 0, .int 110] sz G cy ev []) (QBl (S := Unit) (fun (r : Int64) (u : Unit) => r = 14) G (fun u => []) (va_A [] sz)) 0 0 (va_A [] sz) := by
  refine met_of (y := yX12_appends) (L := 3) (av := [.long 0, .int 110]) (Qc := fun A => QBl (S := Unit) (fun (r : Int64) (u : Unit) => r = 14) G (fun u => []) A) (by decide) (Nat.le_of_ble_eq_true rfl) ?_
  intro p e s m below meth c hx hb hr hml hown hT hlocks hin hK A hA hE hP hD hS ls hl
  have hown : s.vm.findClass "LieClockModel" = some m.cls := hown
  have hl : lv_has ls 3 [(0, .long 0), (2, .int 110)] := hl
  refine lv_iload_n hx hb dX12_appends_0 rfl (lv_at hl 1 rfl) ?_
  refine lv_if_ne (tgt := 8) hx hb dX12_appends_1 (by decide) (fun _ => ?_) (fun c => absurd c (by decide))
  refine lv_ldc2 (v := 27) hx hb hown (hT _ tb_1374) dX12_appends_8 ?_
  refine lv_lload_n hx hb dX12_appends_11 rfl (lv_at hl 0 rfl) ?_
  refine kx_lmul (v := 0) hx hb dX12_appends_12 (by decide) ?_
  refine lv_iload_n hx hb dX12_appends_13 rfl (lv_at hl 1 rfl) ?_
  refine lv_bipush (v := 97) hx hb dX12_appends_14 (by decide) ?_
  refine kx_isub (v := 13) hx hb dX12_appends_16 (by decide) ?_
  refine lv_iconst (v := 1) hx hb dX12_appends_17 (by decide) ?_
  refine kx_iadd (v := 14) hx hb dX12_appends_18 (by decide) ?_
  refine lv_i2l (v := 14) hx hb dX12_appends_19 (by decide) ?_
  refine kx_ladd (v := 14) hx hb dX12_appends_20 (by decide) ?_
  exact kr_l hx hb hr hlocks hP hD hS (u := (() : Unit)) rfl [] rfl (by decide) (Nat.le_of_ble_eq_true rfl) (Nat.le_of_ble_eq_true rfl) dX12_appends_21

set_option maxRecDepth 100000 in
set_option maxHeartbeats 4000000 in
theorem zcX12_appends_10 (l : Launch) (G : va_G) (cy : Nat → ClassId) (ev : Ev) (sz : Nat)   : Met l yX12_appends (WS yX12_appends cX12_appends 3 (some .long)) { frames := 0, cells := 0, slots := 0, locals := 0 } (PB [.long 14, .int 111] sz G cy ev []) (QBl (S := Unit) (fun (r : Int64) (u : Unit) => r = 393) G (fun u => []) (va_A [] sz)) 0 0 (va_A [] sz) := by
  refine met_of (y := yX12_appends) (L := 3) (av := [.long 14, .int 111]) (Qc := fun A => QBl (S := Unit) (fun (r : Int64) (u : Unit) => r = 393) G (fun u => []) A) (by decide) (Nat.le_of_ble_eq_true rfl) ?_
  intro p e s m below meth c hx hb hr hml hown hT hlocks hin hK A hA hE hP hD hS ls hl
  have hown : s.vm.findClass "LieClockModel" = some m.cls := hown
  have hl : lv_has ls 3 [(0, .long 14), (2, .int 111)] := hl
  refine lv_iload_n hx hb dX12_appends_0 rfl (lv_at hl 1 rfl) ?_
  refine lv_if_ne (tgt := 8) hx hb dX12_appends_1 (by decide) (fun _ => ?_) (fun c => absurd c (by decide))
  refine lv_ldc2 (v := 27) hx hb hown (hT _ tb_1374) dX12_appends_8 ?_
  refine lv_lload_n hx hb dX12_appends_11 rfl (lv_at hl 0 rfl) ?_
  refine kx_lmul (v := 378) hx hb dX12_appends_12 (by decide) ?_
  refine lv_iload_n hx hb dX12_appends_13 rfl (lv_at hl 1 rfl) ?_
  refine lv_bipush (v := 97) hx hb dX12_appends_14 (by decide) ?_
  refine kx_isub (v := 14) hx hb dX12_appends_16 (by decide) ?_
  refine lv_iconst (v := 1) hx hb dX12_appends_17 (by decide) ?_
  refine kx_iadd (v := 15) hx hb dX12_appends_18 (by decide) ?_
  refine lv_i2l (v := 15) hx hb dX12_appends_19 (by decide) ?_
  refine kx_ladd (v := 393) hx hb dX12_appends_20 (by decide) ?_
  exact kr_l hx hb hr hlocks hP hD hS (u := (() : Unit)) rfl [] rfl (by decide) (Nat.le_of_ble_eq_true rfl) (Nat.le_of_ble_eq_true rfl) dX12_appends_21

set_option maxRecDepth 100000 in
set_option maxHeartbeats 4000000 in
theorem zcX12_appends_11 (l : Launch) (G : va_G) (cy : Nat → ClassId) (ev : Ev) (sz : Nat)   : Met l yX12_appends (WS yX12_appends cX12_appends 3 (some .long)) { frames := 0, cells := 0, slots := 0, locals := 0 } (PB [.long 393, .int 0] sz G cy ev []) (QBl (S := Unit) (fun (r : Int64) (u : Unit) => r = 393) G (fun u => []) (va_A [] sz)) 0 0 (va_A [] sz) := by
  refine met_of (y := yX12_appends) (L := 3) (av := [.long 393, .int 0]) (Qc := fun A => QBl (S := Unit) (fun (r : Int64) (u : Unit) => r = 393) G (fun u => []) A) (by decide) (Nat.le_of_ble_eq_true rfl) ?_
  intro p e s m below meth c hx hb hr hml hown hT hlocks hin hK A hA hE hP hD hS ls hl
  have hown : s.vm.findClass "LieClockModel" = some m.cls := hown
  have hl : lv_has ls 3 [(0, .long 393), (2, .int 0)] := hl
  refine lv_iload_n hx hb dX12_appends_0 rfl (lv_at hl 1 rfl) ?_
  refine lv_if_ne (tgt := 8) hx hb dX12_appends_1 (by decide) (fun c => absurd (by decide) c) (fun _ => ?_)
  refine lv_lload_n hx hb dX12_appends_4 rfl (lv_at hl 0 rfl) ?_
  refine lv_goto (tgt := 21) hx hb dX12_appends_5 (by decide) ?_
  exact kr_l hx hb hr hlocks hP hD hS (u := (() : Unit)) rfl [] rfl (by decide) (Nat.le_of_ble_eq_true rfl) (Nat.le_of_ble_eq_true rfl) dX12_appends_21

set_option maxRecDepth 100000 in
set_option maxHeartbeats 4000000 in
theorem zcX12_word_2 (l : Launch) (G : va_G) (cy : Nat → ClassId) (ev : Ev) (sz : Nat)   : Met l yX12_word (WS yX12_word cX12_word 7 (some .long)) { frames := 1, cells := 0, slots := 0, locals := 22 } (PB [.int 110, .int 111, .int 0, .int 0, .int 0, .int 0, .int 0] sz G cy ev []) (QBl (S := Unit) (fun (r : Int64) (u : Unit) => r = 393) G (fun u => []) (va_A [] sz)) 0 0 (va_A [] sz) := by
  refine met_of (y := yX12_word) (L := 7) (av := [.int 110, .int 111, .int 0, .int 0, .int 0, .int 0, .int 0]) (Qc := fun A => QBl (S := Unit) (fun (r : Int64) (u : Unit) => r = 393) G (fun u => []) A) (by decide) (Nat.le_of_ble_eq_true rfl) ?_
  intro p e s m below meth c hx hb hr hml hown hT hlocks hin hK A hA hE hP hD hS ls hl
  have hown : s.vm.findClass "LieClockModel" = some m.cls := hown
  have hl : lv_has ls 7 [(0, .int 110), (1, .int 111), (2, .int 0), (3, .int 0), (4, .int 0), (5, .int 0), (6, .int 0)] := hl
  refine lv_lconst (v := 0) hx hb dX12_word_0 (by decide) ?_
  refine lv_iload_n hx hb dX12_word_1 rfl (lv_at hl 0 rfl) ?_
  refine kc_l (W1 := []) (wr := []) [] [] rfl rfl (by decide) (by decide) hP hD hS hA (va_runS (As := [.long 0, .int 110]) (rest := []) ⟨hx, hb, hml, hown, hT⟩ (zcX12_appends_9 l G cy ev _ ) (va_cwS 2 hT (good_S tb_1373 tb_1371 tb_1372 tb_122) rfl rfl rfl (by decide +kernel) ⟨Nat.le_of_ble_eq_true rfl, Nat.le_of_ble_eq_true rfl⟩) (PB.preS hK hE hS hA hP hD [] rfl (by decide)) rfl rfl hl.1 rfl (lv_room (Nat.le_of_ble_eq_true rfl)) dX12_word_2 ⟨Nat.le_of_ble_eq_true rfl, Nat.le_of_ble_eq_true rfl⟩) (fun r u H locs hw hP hD hS => ?_)
  obtain rfl : r = 14 := hw
  obtain ⟨hP, hD⟩ : PD G A [] H := ⟨hP, hD⟩
  refine lv_iload_n hx hb dX12_word_5 rfl (lv_at hl 1 rfl) ?_
  refine kc_l (W1 := []) (wr := []) [] [] rfl rfl (by decide) (by decide) hP hD hS hA (va_runS (As := [.long 14, .int 111]) (rest := []) ⟨hx, hb, hml, hown, hT⟩ (zcX12_appends_10 l G cy ev _ ) (va_cwS 2 hT (good_S tb_1373 tb_1371 tb_1372 tb_122) rfl rfl rfl (by decide +kernel) ⟨Nat.le_of_ble_eq_true rfl, Nat.le_of_ble_eq_true rfl⟩) (PB.preS hK hE hS hA hP hD [] rfl (by decide)) rfl rfl hl.1 rfl (lv_room (Nat.le_of_ble_eq_true rfl)) dX12_word_6 ⟨Nat.le_of_ble_eq_true rfl, Nat.le_of_ble_eq_true rfl⟩) (fun r u H locs hw hP hD hS => ?_)
  obtain rfl : r = 393 := hw
  obtain ⟨hP, hD⟩ : PD G A [] H := ⟨hP, hD⟩
  refine lv_iload_n hx hb dX12_word_9 rfl (lv_at hl 2 rfl) ?_
  refine kc_l (W1 := []) (wr := []) [] [] rfl rfl (by decide) (by decide) hP hD hS hA (va_runS (As := [.long 393, .int 0]) (rest := []) ⟨hx, hb, hml, hown, hT⟩ (zcX12_appends_11 l G cy ev _ ) (va_cwS 2 hT (good_S tb_1373 tb_1371 tb_1372 tb_122) rfl rfl rfl (by decide +kernel) ⟨Nat.le_of_ble_eq_true rfl, Nat.le_of_ble_eq_true rfl⟩) (PB.preS hK hE hS hA hP hD [] rfl (by decide)) rfl rfl hl.1 rfl (lv_room (Nat.le_of_ble_eq_true rfl)) dX12_word_10 ⟨Nat.le_of_ble_eq_true rfl, Nat.le_of_ble_eq_true rfl⟩) (fun r u H locs hw hP hD hS => ?_)
  obtain rfl : r = 393 := hw
  obtain ⟨hP, hD⟩ : PD G A [] H := ⟨hP, hD⟩
  refine lv_iload_n hx hb dX12_word_13 rfl (lv_at hl 3 rfl) ?_
  refine kc_l (W1 := []) (wr := []) [] [] rfl rfl (by decide) (by decide) hP hD hS hA (va_runS (As := [.long 393, .int 0]) (rest := []) ⟨hx, hb, hml, hown, hT⟩ (zcX12_appends_11 l G cy ev _ ) (va_cwS 2 hT (good_S tb_1373 tb_1371 tb_1372 tb_122) rfl rfl rfl (by decide +kernel) ⟨Nat.le_of_ble_eq_true rfl, Nat.le_of_ble_eq_true rfl⟩) (PB.preS hK hE hS hA hP hD [] rfl (by decide)) rfl rfl hl.1 rfl (lv_room (Nat.le_of_ble_eq_true rfl)) dX12_word_14 ⟨Nat.le_of_ble_eq_true rfl, Nat.le_of_ble_eq_true rfl⟩) (fun r u H locs hw hP hD hS => ?_)
  obtain rfl : r = 393 := hw
  obtain ⟨hP, hD⟩ : PD G A [] H := ⟨hP, hD⟩
  refine lv_iload hx hb dX12_word_17 (lv_at hl 4 rfl) ?_
  refine kc_l (W1 := []) (wr := []) [] [] rfl rfl (by decide) (by decide) hP hD hS hA (va_runS (As := [.long 393, .int 0]) (rest := []) ⟨hx, hb, hml, hown, hT⟩ (zcX12_appends_11 l G cy ev _ ) (va_cwS 2 hT (good_S tb_1373 tb_1371 tb_1372 tb_122) rfl rfl rfl (by decide +kernel) ⟨Nat.le_of_ble_eq_true rfl, Nat.le_of_ble_eq_true rfl⟩) (PB.preS hK hE hS hA hP hD [] rfl (by decide)) rfl rfl hl.1 rfl (lv_room (Nat.le_of_ble_eq_true rfl)) dX12_word_19 ⟨Nat.le_of_ble_eq_true rfl, Nat.le_of_ble_eq_true rfl⟩) (fun r u H locs hw hP hD hS => ?_)
  obtain rfl : r = 393 := hw
  obtain ⟨hP, hD⟩ : PD G A [] H := ⟨hP, hD⟩
  refine lv_iload hx hb dX12_word_22 (lv_at hl 5 rfl) ?_
  refine kc_l (W1 := []) (wr := []) [] [] rfl rfl (by decide) (by decide) hP hD hS hA (va_runS (As := [.long 393, .int 0]) (rest := []) ⟨hx, hb, hml, hown, hT⟩ (zcX12_appends_11 l G cy ev _ ) (va_cwS 2 hT (good_S tb_1373 tb_1371 tb_1372 tb_122) rfl rfl rfl (by decide +kernel) ⟨Nat.le_of_ble_eq_true rfl, Nat.le_of_ble_eq_true rfl⟩) (PB.preS hK hE hS hA hP hD [] rfl (by decide)) rfl rfl hl.1 rfl (lv_room (Nat.le_of_ble_eq_true rfl)) dX12_word_24 ⟨Nat.le_of_ble_eq_true rfl, Nat.le_of_ble_eq_true rfl⟩) (fun r u H locs hw hP hD hS => ?_)
  obtain rfl : r = 393 := hw
  obtain ⟨hP, hD⟩ : PD G A [] H := ⟨hP, hD⟩
  refine lv_iload hx hb dX12_word_27 (lv_at hl 6 rfl) ?_
  refine kc_l (W1 := []) (wr := []) [] [] rfl rfl (by decide) (by decide) hP hD hS hA (va_runS (As := [.long 393, .int 0]) (rest := []) ⟨hx, hb, hml, hown, hT⟩ (zcX12_appends_11 l G cy ev _ ) (va_cwS 2 hT (good_S tb_1373 tb_1371 tb_1372 tb_122) rfl rfl rfl (by decide +kernel) ⟨Nat.le_of_ble_eq_true rfl, Nat.le_of_ble_eq_true rfl⟩) (PB.preS hK hE hS hA hP hD [] rfl (by decide)) rfl rfl hl.1 rfl (lv_room (Nat.le_of_ble_eq_true rfl)) dX12_word_29 ⟨Nat.le_of_ble_eq_true rfl, Nat.le_of_ble_eq_true rfl⟩) (fun r u H locs hw hP hD hS => ?_)
  obtain rfl : r = 393 := hw
  obtain ⟨hP, hD⟩ : PD G A [] H := ⟨hP, hD⟩
  exact kr_l hx hb hr hlocks hP hD hS (u := (() : Unit)) rfl [] rfl (by decide) (Nat.le_of_ble_eq_true rfl) (Nat.le_of_ble_eq_true rfl) dX12_word_32

set_option maxRecDepth 100000 in
set_option maxHeartbeats 4000000 in
theorem zcX12_appends_12 (l : Launch) (G : va_G) (cy : Nat → ClassId) (ev : Ev) (sz : Nat)   : Met l yX12_appends (WS yX12_appends cX12_appends 3 (some .long)) { frames := 0, cells := 0, slots := 0, locals := 0 } (PB [.long 0, .int 111] sz G cy ev []) (QBl (S := Unit) (fun (r : Int64) (u : Unit) => r = 15) G (fun u => []) (va_A [] sz)) 0 0 (va_A [] sz) := by
  refine met_of (y := yX12_appends) (L := 3) (av := [.long 0, .int 111]) (Qc := fun A => QBl (S := Unit) (fun (r : Int64) (u : Unit) => r = 15) G (fun u => []) A) (by decide) (Nat.le_of_ble_eq_true rfl) ?_
  intro p e s m below meth c hx hb hr hml hown hT hlocks hin hK A hA hE hP hD hS ls hl
  have hown : s.vm.findClass "LieClockModel" = some m.cls := hown
  have hl : lv_has ls 3 [(0, .long 0), (2, .int 111)] := hl
  refine lv_iload_n hx hb dX12_appends_0 rfl (lv_at hl 1 rfl) ?_
  refine lv_if_ne (tgt := 8) hx hb dX12_appends_1 (by decide) (fun _ => ?_) (fun c => absurd c (by decide))
  refine lv_ldc2 (v := 27) hx hb hown (hT _ tb_1374) dX12_appends_8 ?_
  refine lv_lload_n hx hb dX12_appends_11 rfl (lv_at hl 0 rfl) ?_
  refine kx_lmul (v := 0) hx hb dX12_appends_12 (by decide) ?_
  refine lv_iload_n hx hb dX12_appends_13 rfl (lv_at hl 1 rfl) ?_
  refine lv_bipush (v := 97) hx hb dX12_appends_14 (by decide) ?_
  refine kx_isub (v := 14) hx hb dX12_appends_16 (by decide) ?_
  refine lv_iconst (v := 1) hx hb dX12_appends_17 (by decide) ?_
  refine kx_iadd (v := 15) hx hb dX12_appends_18 (by decide) ?_
  refine lv_i2l (v := 15) hx hb dX12_appends_19 (by decide) ?_
  refine kx_ladd (v := 15) hx hb dX12_appends_20 (by decide) ?_
  exact kr_l hx hb hr hlocks hP hD hS (u := (() : Unit)) rfl [] rfl (by decide) (Nat.le_of_ble_eq_true rfl) (Nat.le_of_ble_eq_true rfl) dX12_appends_21

set_option maxRecDepth 100000 in
set_option maxHeartbeats 4000000 in
theorem zcX12_appends_13 (l : Launch) (G : va_G) (cy : Nat → ClassId) (ev : Ev) (sz : Nat)   : Met l yX12_appends (WS yX12_appends cX12_appends 3 (some .long)) { frames := 0, cells := 0, slots := 0, locals := 0 } (PB [.long 15, .int 112] sz G cy ev []) (QBl (S := Unit) (fun (r : Int64) (u : Unit) => r = 421) G (fun u => []) (va_A [] sz)) 0 0 (va_A [] sz) := by
  refine met_of (y := yX12_appends) (L := 3) (av := [.long 15, .int 112]) (Qc := fun A => QBl (S := Unit) (fun (r : Int64) (u : Unit) => r = 421) G (fun u => []) A) (by decide) (Nat.le_of_ble_eq_true rfl) ?_
  intro p e s m below meth c hx hb hr hml hown hT hlocks hin hK A hA hE hP hD hS ls hl
  have hown : s.vm.findClass "LieClockModel" = some m.cls := hown
  have hl : lv_has ls 3 [(0, .long 15), (2, .int 112)] := hl
  refine lv_iload_n hx hb dX12_appends_0 rfl (lv_at hl 1 rfl) ?_
  refine lv_if_ne (tgt := 8) hx hb dX12_appends_1 (by decide) (fun _ => ?_) (fun c => absurd c (by decide))
  refine lv_ldc2 (v := 27) hx hb hown (hT _ tb_1374) dX12_appends_8 ?_
  refine lv_lload_n hx hb dX12_appends_11 rfl (lv_at hl 0 rfl) ?_
  refine kx_lmul (v := 405) hx hb dX12_appends_12 (by decide) ?_
  refine lv_iload_n hx hb dX12_appends_13 rfl (lv_at hl 1 rfl) ?_
  refine lv_bipush (v := 97) hx hb dX12_appends_14 (by decide) ?_
  refine kx_isub (v := 15) hx hb dX12_appends_16 (by decide) ?_
  refine lv_iconst (v := 1) hx hb dX12_appends_17 (by decide) ?_
  refine kx_iadd (v := 16) hx hb dX12_appends_18 (by decide) ?_
  refine lv_i2l (v := 16) hx hb dX12_appends_19 (by decide) ?_
  refine kx_ladd (v := 421) hx hb dX12_appends_20 (by decide) ?_
  exact kr_l hx hb hr hlocks hP hD hS (u := (() : Unit)) rfl [] rfl (by decide) (Nat.le_of_ble_eq_true rfl) (Nat.le_of_ble_eq_true rfl) dX12_appends_21

set_option maxRecDepth 100000 in
set_option maxHeartbeats 4000000 in
theorem zcX12_appends_14 (l : Launch) (G : va_G) (cy : Nat → ClassId) (ev : Ev) (sz : Nat)   : Met l yX12_appends (WS yX12_appends cX12_appends 3 (some .long)) { frames := 0, cells := 0, slots := 0, locals := 0 } (PB [.long 421, .int 101] sz G cy ev []) (QBl (S := Unit) (fun (r : Int64) (u : Unit) => r = 11372) G (fun u => []) (va_A [] sz)) 0 0 (va_A [] sz) := by
  refine met_of (y := yX12_appends) (L := 3) (av := [.long 421, .int 101]) (Qc := fun A => QBl (S := Unit) (fun (r : Int64) (u : Unit) => r = 11372) G (fun u => []) A) (by decide) (Nat.le_of_ble_eq_true rfl) ?_
  intro p e s m below meth c hx hb hr hml hown hT hlocks hin hK A hA hE hP hD hS ls hl
  have hown : s.vm.findClass "LieClockModel" = some m.cls := hown
  have hl : lv_has ls 3 [(0, .long 421), (2, .int 101)] := hl
  refine lv_iload_n hx hb dX12_appends_0 rfl (lv_at hl 1 rfl) ?_
  refine lv_if_ne (tgt := 8) hx hb dX12_appends_1 (by decide) (fun _ => ?_) (fun c => absurd c (by decide))
  refine lv_ldc2 (v := 27) hx hb hown (hT _ tb_1374) dX12_appends_8 ?_
  refine lv_lload_n hx hb dX12_appends_11 rfl (lv_at hl 0 rfl) ?_
  refine kx_lmul (v := 11367) hx hb dX12_appends_12 (by decide) ?_
  refine lv_iload_n hx hb dX12_appends_13 rfl (lv_at hl 1 rfl) ?_
  refine lv_bipush (v := 97) hx hb dX12_appends_14 (by decide) ?_
  refine kx_isub (v := 4) hx hb dX12_appends_16 (by decide) ?_
  refine lv_iconst (v := 1) hx hb dX12_appends_17 (by decide) ?_
  refine kx_iadd (v := 5) hx hb dX12_appends_18 (by decide) ?_
  refine lv_i2l (v := 5) hx hb dX12_appends_19 (by decide) ?_
  refine kx_ladd (v := 11372) hx hb dX12_appends_20 (by decide) ?_
  exact kr_l hx hb hr hlocks hP hD hS (u := (() : Unit)) rfl [] rfl (by decide) (Nat.le_of_ble_eq_true rfl) (Nat.le_of_ble_eq_true rfl) dX12_appends_21

set_option maxRecDepth 100000 in
set_option maxHeartbeats 4000000 in
theorem zcX12_appends_15 (l : Launch) (G : va_G) (cy : Nat → ClassId) (ev : Ev) (sz : Nat)   : Met l yX12_appends (WS yX12_appends cX12_appends 3 (some .long)) { frames := 0, cells := 0, slots := 0, locals := 0 } (PB [.long 11372, .int 110] sz G cy ev []) (QBl (S := Unit) (fun (r : Int64) (u : Unit) => r = 307058) G (fun u => []) (va_A [] sz)) 0 0 (va_A [] sz) := by
  refine met_of (y := yX12_appends) (L := 3) (av := [.long 11372, .int 110]) (Qc := fun A => QBl (S := Unit) (fun (r : Int64) (u : Unit) => r = 307058) G (fun u => []) A) (by decide) (Nat.le_of_ble_eq_true rfl) ?_
  intro p e s m below meth c hx hb hr hml hown hT hlocks hin hK A hA hE hP hD hS ls hl
  have hown : s.vm.findClass "LieClockModel" = some m.cls := hown
  have hl : lv_has ls 3 [(0, .long 11372), (2, .int 110)] := hl
  refine lv_iload_n hx hb dX12_appends_0 rfl (lv_at hl 1 rfl) ?_
  refine lv_if_ne (tgt := 8) hx hb dX12_appends_1 (by decide) (fun _ => ?_) (fun c => absurd c (by decide))
  refine lv_ldc2 (v := 27) hx hb hown (hT _ tb_1374) dX12_appends_8 ?_
  refine lv_lload_n hx hb dX12_appends_11 rfl (lv_at hl 0 rfl) ?_
  refine kx_lmul (v := 307044) hx hb dX12_appends_12 (by decide) ?_
  refine lv_iload_n hx hb dX12_appends_13 rfl (lv_at hl 1 rfl) ?_
  refine lv_bipush (v := 97) hx hb dX12_appends_14 (by decide) ?_
  refine kx_isub (v := 13) hx hb dX12_appends_16 (by decide) ?_
  refine lv_iconst (v := 1) hx hb dX12_appends_17 (by decide) ?_
  refine kx_iadd (v := 14) hx hb dX12_appends_18 (by decide) ?_
  refine lv_i2l (v := 14) hx hb dX12_appends_19 (by decide) ?_
  refine kx_ladd (v := 307058) hx hb dX12_appends_20 (by decide) ?_
  exact kr_l hx hb hr hlocks hP hD hS (u := (() : Unit)) rfl [] rfl (by decide) (Nat.le_of_ble_eq_true rfl) (Nat.le_of_ble_eq_true rfl) dX12_appends_21

set_option maxRecDepth 100000 in
set_option maxHeartbeats 4000000 in
theorem zcX12_appends_16 (l : Launch) (G : va_G) (cy : Nat → ClassId) (ev : Ev) (sz : Nat)   : Met l yX12_appends (WS yX12_appends cX12_appends 3 (some .long)) { frames := 0, cells := 0, slots := 0, locals := 0 } (PB [.long 307058, .int 0] sz G cy ev []) (QBl (S := Unit) (fun (r : Int64) (u : Unit) => r = 307058) G (fun u => []) (va_A [] sz)) 0 0 (va_A [] sz) := by
  refine met_of (y := yX12_appends) (L := 3) (av := [.long 307058, .int 0]) (Qc := fun A => QBl (S := Unit) (fun (r : Int64) (u : Unit) => r = 307058) G (fun u => []) A) (by decide) (Nat.le_of_ble_eq_true rfl) ?_
  intro p e s m below meth c hx hb hr hml hown hT hlocks hin hK A hA hE hP hD hS ls hl
  have hown : s.vm.findClass "LieClockModel" = some m.cls := hown
  have hl : lv_has ls 3 [(0, .long 307058), (2, .int 0)] := hl
  refine lv_iload_n hx hb dX12_appends_0 rfl (lv_at hl 1 rfl) ?_
  refine lv_if_ne (tgt := 8) hx hb dX12_appends_1 (by decide) (fun c => absurd (by decide) c) (fun _ => ?_)
  refine lv_lload_n hx hb dX12_appends_4 rfl (lv_at hl 0 rfl) ?_
  refine lv_goto (tgt := 21) hx hb dX12_appends_5 (by decide) ?_
  exact kr_l hx hb hr hlocks hP hD hS (u := (() : Unit)) rfl [] rfl (by decide) (Nat.le_of_ble_eq_true rfl) (Nat.le_of_ble_eq_true rfl) dX12_appends_21

set_option maxRecDepth 100000 in
set_option maxHeartbeats 4000000 in
theorem zcX12_word_3 (l : Launch) (G : va_G) (cy : Nat → ClassId) (ev : Ev) (sz : Nat)   : Met l yX12_word (WS yX12_word cX12_word 7 (some .long)) { frames := 1, cells := 0, slots := 0, locals := 22 } (PB [.int 111, .int 112, .int 101, .int 110, .int 0, .int 0, .int 0] sz G cy ev []) (QBl (S := Unit) (fun (r : Int64) (u : Unit) => r = 307058) G (fun u => []) (va_A [] sz)) 0 0 (va_A [] sz) := by
  refine met_of (y := yX12_word) (L := 7) (av := [.int 111, .int 112, .int 101, .int 110, .int 0, .int 0, .int 0]) (Qc := fun A => QBl (S := Unit) (fun (r : Int64) (u : Unit) => r = 307058) G (fun u => []) A) (by decide) (Nat.le_of_ble_eq_true rfl) ?_
  intro p e s m below meth c hx hb hr hml hown hT hlocks hin hK A hA hE hP hD hS ls hl
  have hown : s.vm.findClass "LieClockModel" = some m.cls := hown
  have hl : lv_has ls 7 [(0, .int 111), (1, .int 112), (2, .int 101), (3, .int 110), (4, .int 0), (5, .int 0), (6, .int 0)] := hl
  refine lv_lconst (v := 0) hx hb dX12_word_0 (by decide) ?_
  refine lv_iload_n hx hb dX12_word_1 rfl (lv_at hl 0 rfl) ?_
  refine kc_l (W1 := []) (wr := []) [] [] rfl rfl (by decide) (by decide) hP hD hS hA (va_runS (As := [.long 0, .int 111]) (rest := []) ⟨hx, hb, hml, hown, hT⟩ (zcX12_appends_12 l G cy ev _ ) (va_cwS 2 hT (good_S tb_1373 tb_1371 tb_1372 tb_122) rfl rfl rfl (by decide +kernel) ⟨Nat.le_of_ble_eq_true rfl, Nat.le_of_ble_eq_true rfl⟩) (PB.preS hK hE hS hA hP hD [] rfl (by decide)) rfl rfl hl.1 rfl (lv_room (Nat.le_of_ble_eq_true rfl)) dX12_word_2 ⟨Nat.le_of_ble_eq_true rfl, Nat.le_of_ble_eq_true rfl⟩) (fun r u H locs hw hP hD hS => ?_)
  obtain rfl : r = 15 := hw
  obtain ⟨hP, hD⟩ : PD G A [] H := ⟨hP, hD⟩
  refine lv_iload_n hx hb dX12_word_5 rfl (lv_at hl 1 rfl) ?_
  refine kc_l (W1 := []) (wr := []) [] [] rfl rfl (by decide) (by decide) hP hD hS hA (va_runS (As := [.long 15, .int 112]) (rest := []) ⟨hx, hb, hml, hown, hT⟩ (zcX12_appends_13 l G cy ev _ ) (va_cwS 2 hT (good_S tb_1373 tb_1371 tb_1372 tb_122) rfl rfl rfl (by decide +kernel) ⟨Nat.le_of_ble_eq_true rfl, Nat.le_of_ble_eq_true rfl⟩) (PB.preS hK hE hS hA hP hD [] rfl (by decide)) rfl rfl hl.1 rfl (lv_room (Nat.le_of_ble_eq_true rfl)) dX12_word_6 ⟨Nat.le_of_ble_eq_true rfl, Nat.le_of_ble_eq_true rfl⟩) (fun r u H locs hw hP hD hS => ?_)
  obtain rfl : r = 421 := hw
  obtain ⟨hP, hD⟩ : PD G A [] H := ⟨hP, hD⟩
  refine lv_iload_n hx hb dX12_word_9 rfl (lv_at hl 2 rfl) ?_
  refine kc_l (W1 := []) (wr := []) [] [] rfl rfl (by decide) (by decide) hP hD hS hA (va_runS (As := [.long 421, .int 101]) (rest := []) ⟨hx, hb, hml, hown, hT⟩ (zcX12_appends_14 l G cy ev _ ) (va_cwS 2 hT (good_S tb_1373 tb_1371 tb_1372 tb_122) rfl rfl rfl (by decide +kernel) ⟨Nat.le_of_ble_eq_true rfl, Nat.le_of_ble_eq_true rfl⟩) (PB.preS hK hE hS hA hP hD [] rfl (by decide)) rfl rfl hl.1 rfl (lv_room (Nat.le_of_ble_eq_true rfl)) dX12_word_10 ⟨Nat.le_of_ble_eq_true rfl, Nat.le_of_ble_eq_true rfl⟩) (fun r u H locs hw hP hD hS => ?_)
  obtain rfl : r = 11372 := hw
  obtain ⟨hP, hD⟩ : PD G A [] H := ⟨hP, hD⟩
  refine lv_iload_n hx hb dX12_word_13 rfl (lv_at hl 3 rfl) ?_
  refine kc_l (W1 := []) (wr := []) [] [] rfl rfl (by decide) (by decide) hP hD hS hA (va_runS (As := [.long 11372, .int 110]) (rest := []) ⟨hx, hb, hml, hown, hT⟩ (zcX12_appends_15 l G cy ev _ ) (va_cwS 2 hT (good_S tb_1373 tb_1371 tb_1372 tb_122) rfl rfl rfl (by decide +kernel) ⟨Nat.le_of_ble_eq_true rfl, Nat.le_of_ble_eq_true rfl⟩) (PB.preS hK hE hS hA hP hD [] rfl (by decide)) rfl rfl hl.1 rfl (lv_room (Nat.le_of_ble_eq_true rfl)) dX12_word_14 ⟨Nat.le_of_ble_eq_true rfl, Nat.le_of_ble_eq_true rfl⟩) (fun r u H locs hw hP hD hS => ?_)
  obtain rfl : r = 307058 := hw
  obtain ⟨hP, hD⟩ : PD G A [] H := ⟨hP, hD⟩
  refine lv_iload hx hb dX12_word_17 (lv_at hl 4 rfl) ?_
  refine kc_l (W1 := []) (wr := []) [] [] rfl rfl (by decide) (by decide) hP hD hS hA (va_runS (As := [.long 307058, .int 0]) (rest := []) ⟨hx, hb, hml, hown, hT⟩ (zcX12_appends_16 l G cy ev _ ) (va_cwS 2 hT (good_S tb_1373 tb_1371 tb_1372 tb_122) rfl rfl rfl (by decide +kernel) ⟨Nat.le_of_ble_eq_true rfl, Nat.le_of_ble_eq_true rfl⟩) (PB.preS hK hE hS hA hP hD [] rfl (by decide)) rfl rfl hl.1 rfl (lv_room (Nat.le_of_ble_eq_true rfl)) dX12_word_19 ⟨Nat.le_of_ble_eq_true rfl, Nat.le_of_ble_eq_true rfl⟩) (fun r u H locs hw hP hD hS => ?_)
  obtain rfl : r = 307058 := hw
  obtain ⟨hP, hD⟩ : PD G A [] H := ⟨hP, hD⟩
  refine lv_iload hx hb dX12_word_22 (lv_at hl 5 rfl) ?_
  refine kc_l (W1 := []) (wr := []) [] [] rfl rfl (by decide) (by decide) hP hD hS hA (va_runS (As := [.long 307058, .int 0]) (rest := []) ⟨hx, hb, hml, hown, hT⟩ (zcX12_appends_16 l G cy ev _ ) (va_cwS 2 hT (good_S tb_1373 tb_1371 tb_1372 tb_122) rfl rfl rfl (by decide +kernel) ⟨Nat.le_of_ble_eq_true rfl, Nat.le_of_ble_eq_true rfl⟩) (PB.preS hK hE hS hA hP hD [] rfl (by decide)) rfl rfl hl.1 rfl (lv_room (Nat.le_of_ble_eq_true rfl)) dX12_word_24 ⟨Nat.le_of_ble_eq_true rfl, Nat.le_of_ble_eq_true rfl⟩) (fun r u H locs hw hP hD hS => ?_)
  obtain rfl : r = 307058 := hw
  obtain ⟨hP, hD⟩ : PD G A [] H := ⟨hP, hD⟩
  refine lv_iload hx hb dX12_word_27 (lv_at hl 6 rfl) ?_
  refine kc_l (W1 := []) (wr := []) [] [] rfl rfl (by decide) (by decide) hP hD hS hA (va_runS (As := [.long 307058, .int 0]) (rest := []) ⟨hx, hb, hml, hown, hT⟩ (zcX12_appends_16 l G cy ev _ ) (va_cwS 2 hT (good_S tb_1373 tb_1371 tb_1372 tb_122) rfl rfl rfl (by decide +kernel) ⟨Nat.le_of_ble_eq_true rfl, Nat.le_of_ble_eq_true rfl⟩) (PB.preS hK hE hS hA hP hD [] rfl (by decide)) rfl rfl hl.1 rfl (lv_room (Nat.le_of_ble_eq_true rfl)) dX12_word_29 ⟨Nat.le_of_ble_eq_true rfl, Nat.le_of_ble_eq_true rfl⟩) (fun r u H locs hw hP hD hS => ?_)
  obtain rfl : r = 307058 := hw
  obtain ⟨hP, hD⟩ : PD G A [] H := ⟨hP, hD⟩
  exact kr_l hx hb hr hlocks hP hD hS (u := (() : Unit)) rfl [] rfl (by decide) (Nat.le_of_ble_eq_true rfl) (Nat.le_of_ble_eq_true rfl) dX12_word_32

set_option maxRecDepth 100000 in
set_option maxHeartbeats 4000000 in
theorem zcX12_appends_17 (l : Launch) (G : va_G) (cy : Nat → ClassId) (ev : Ev) (sz : Nat)   : Met l yX12_appends (WS yX12_appends cX12_appends 3 (some .long)) { frames := 0, cells := 0, slots := 0, locals := 0 } (PB [.long 0, .int 119] sz G cy ev []) (QBl (S := Unit) (fun (r : Int64) (u : Unit) => r = 23) G (fun u => []) (va_A [] sz)) 0 0 (va_A [] sz) := by
  refine met_of (y := yX12_appends) (L := 3) (av := [.long 0, .int 119]) (Qc := fun A => QBl (S := Unit) (fun (r : Int64) (u : Unit) => r = 23) G (fun u => []) A) (by decide) (Nat.le_of_ble_eq_true rfl) ?_
  intro p e s m below meth c hx hb hr hml hown hT hlocks hin hK A hA hE hP hD hS ls hl
  have hown : s.vm.findClass "LieClockModel" = some m.cls := hown
  have hl : lv_has ls 3 [(0, .long 0), (2, .int 119)] := hl
  refine lv_iload_n hx hb dX12_appends_0 rfl (lv_at hl 1 rfl) ?_
  refine lv_if_ne (tgt := 8) hx hb dX12_appends_1 (by decide) (fun _ => ?_) (fun c => absurd c (by decide))
  refine lv_ldc2 (v := 27) hx hb hown (hT _ tb_1374) dX12_appends_8 ?_
  refine lv_lload_n hx hb dX12_appends_11 rfl (lv_at hl 0 rfl) ?_
  refine kx_lmul (v := 0) hx hb dX12_appends_12 (by decide) ?_
  refine lv_iload_n hx hb dX12_appends_13 rfl (lv_at hl 1 rfl) ?_
  refine lv_bipush (v := 97) hx hb dX12_appends_14 (by decide) ?_
  refine kx_isub (v := 22) hx hb dX12_appends_16 (by decide) ?_
  refine lv_iconst (v := 1) hx hb dX12_appends_17 (by decide) ?_
  refine kx_iadd (v := 23) hx hb dX12_appends_18 (by decide) ?_
  refine lv_i2l (v := 23) hx hb dX12_appends_19 (by decide) ?_
  refine kx_ladd (v := 23) hx hb dX12_appends_20 (by decide) ?_
  exact kr_l hx hb hr hlocks hP hD hS (u := (() : Unit)) rfl [] rfl (by decide) (Nat.le_of_ble_eq_true rfl) (Nat.le_of_ble_eq_true rfl) dX12_appends_21

set_option maxRecDepth 100000 in
set_option maxHeartbeats 4000000 in
theorem zcX12_appends_18 (l : Launch) (G : va_G) (cy : Nat → ClassId) (ev : Ev) (sz : Nat)   : Met l yX12_appends (WS yX12_appends cX12_appends 3 (some .long)) { frames := 0, cells := 0, slots := 0, locals := 0 } (PB [.long 23, .int 105] sz G cy ev []) (QBl (S := Unit) (fun (r : Int64) (u : Unit) => r = 630) G (fun u => []) (va_A [] sz)) 0 0 (va_A [] sz) := by
  refine met_of (y := yX12_appends) (L := 3) (av := [.long 23, .int 105]) (Qc := fun A => QBl (S := Unit) (fun (r : Int64) (u : Unit) => r = 630) G (fun u => []) A) (by decide) (Nat.le_of_ble_eq_true rfl) ?_
  intro p e s m below meth c hx hb hr hml hown hT hlocks hin hK A hA hE hP hD hS ls hl
  have hown : s.vm.findClass "LieClockModel" = some m.cls := hown
  have hl : lv_has ls 3 [(0, .long 23), (2, .int 105)] := hl
  refine lv_iload_n hx hb dX12_appends_0 rfl (lv_at hl 1 rfl) ?_
  refine lv_if_ne (tgt := 8) hx hb dX12_appends_1 (by decide) (fun _ => ?_) (fun c => absurd c (by decide))
  refine lv_ldc2 (v := 27) hx hb hown (hT _ tb_1374) dX12_appends_8 ?_
  refine lv_lload_n hx hb dX12_appends_11 rfl (lv_at hl 0 rfl) ?_
  refine kx_lmul (v := 621) hx hb dX12_appends_12 (by decide) ?_
  refine lv_iload_n hx hb dX12_appends_13 rfl (lv_at hl 1 rfl) ?_
  refine lv_bipush (v := 97) hx hb dX12_appends_14 (by decide) ?_
  refine kx_isub (v := 8) hx hb dX12_appends_16 (by decide) ?_
  refine lv_iconst (v := 1) hx hb dX12_appends_17 (by decide) ?_
  refine kx_iadd (v := 9) hx hb dX12_appends_18 (by decide) ?_
  refine lv_i2l (v := 9) hx hb dX12_appends_19 (by decide) ?_
  refine kx_ladd (v := 630) hx hb dX12_appends_20 (by decide) ?_
  exact kr_l hx hb hr hlocks hP hD hS (u := (() : Unit)) rfl [] rfl (by decide) (Nat.le_of_ble_eq_true rfl) (Nat.le_of_ble_eq_true rfl) dX12_appends_21

set_option maxRecDepth 100000 in
set_option maxHeartbeats 4000000 in
theorem zcX12_appends_19 (l : Launch) (G : va_G) (cy : Nat → ClassId) (ev : Ev) (sz : Nat)   : Met l yX12_appends (WS yX12_appends cX12_appends 3 (some .long)) { frames := 0, cells := 0, slots := 0, locals := 0 } (PB [.long 630, .int 116] sz G cy ev []) (QBl (S := Unit) (fun (r : Int64) (u : Unit) => r = 17030) G (fun u => []) (va_A [] sz)) 0 0 (va_A [] sz) := by
  refine met_of (y := yX12_appends) (L := 3) (av := [.long 630, .int 116]) (Qc := fun A => QBl (S := Unit) (fun (r : Int64) (u : Unit) => r = 17030) G (fun u => []) A) (by decide) (Nat.le_of_ble_eq_true rfl) ?_
  intro p e s m below meth c hx hb hr hml hown hT hlocks hin hK A hA hE hP hD hS ls hl
  have hown : s.vm.findClass "LieClockModel" = some m.cls := hown
  have hl : lv_has ls 3 [(0, .long 630), (2, .int 116)] := hl
  refine lv_iload_n hx hb dX12_appends_0 rfl (lv_at hl 1 rfl) ?_
  refine lv_if_ne (tgt := 8) hx hb dX12_appends_1 (by decide) (fun _ => ?_) (fun c => absurd c (by decide))
  refine lv_ldc2 (v := 27) hx hb hown (hT _ tb_1374) dX12_appends_8 ?_
  refine lv_lload_n hx hb dX12_appends_11 rfl (lv_at hl 0 rfl) ?_
  refine kx_lmul (v := 17010) hx hb dX12_appends_12 (by decide) ?_
  refine lv_iload_n hx hb dX12_appends_13 rfl (lv_at hl 1 rfl) ?_
  refine lv_bipush (v := 97) hx hb dX12_appends_14 (by decide) ?_
  refine kx_isub (v := 19) hx hb dX12_appends_16 (by decide) ?_
  refine lv_iconst (v := 1) hx hb dX12_appends_17 (by decide) ?_
  refine kx_iadd (v := 20) hx hb dX12_appends_18 (by decide) ?_
  refine lv_i2l (v := 20) hx hb dX12_appends_19 (by decide) ?_
  refine kx_ladd (v := 17030) hx hb dX12_appends_20 (by decide) ?_
  exact kr_l hx hb hr hlocks hP hD hS (u := (() : Unit)) rfl [] rfl (by decide) (Nat.le_of_ble_eq_true rfl) (Nat.le_of_ble_eq_true rfl) dX12_appends_21

set_option maxRecDepth 100000 in
set_option maxHeartbeats 4000000 in
theorem zcX12_appends_20 (l : Launch) (G : va_G) (cy : Nat → ClassId) (ev : Ev) (sz : Nat)   : Met l yX12_appends (WS yX12_appends cX12_appends 3 (some .long)) { frames := 0, cells := 0, slots := 0, locals := 0 } (PB [.long 17030, .int 110] sz G cy ev []) (QBl (S := Unit) (fun (r : Int64) (u : Unit) => r = 459824) G (fun u => []) (va_A [] sz)) 0 0 (va_A [] sz) := by
  refine met_of (y := yX12_appends) (L := 3) (av := [.long 17030, .int 110]) (Qc := fun A => QBl (S := Unit) (fun (r : Int64) (u : Unit) => r = 459824) G (fun u => []) A) (by decide) (Nat.le_of_ble_eq_true rfl) ?_
  intro p e s m below meth c hx hb hr hml hown hT hlocks hin hK A hA hE hP hD hS ls hl
  have hown : s.vm.findClass "LieClockModel" = some m.cls := hown
  have hl : lv_has ls 3 [(0, .long 17030), (2, .int 110)] := hl
  refine lv_iload_n hx hb dX12_appends_0 rfl (lv_at hl 1 rfl) ?_
  refine lv_if_ne (tgt := 8) hx hb dX12_appends_1 (by decide) (fun _ => ?_) (fun c => absurd c (by decide))
  refine lv_ldc2 (v := 27) hx hb hown (hT _ tb_1374) dX12_appends_8 ?_
  refine lv_lload_n hx hb dX12_appends_11 rfl (lv_at hl 0 rfl) ?_
  refine kx_lmul (v := 459810) hx hb dX12_appends_12 (by decide) ?_
  refine lv_iload_n hx hb dX12_appends_13 rfl (lv_at hl 1 rfl) ?_
  refine lv_bipush (v := 97) hx hb dX12_appends_14 (by decide) ?_
  refine kx_isub (v := 13) hx hb dX12_appends_16 (by decide) ?_
  refine lv_iconst (v := 1) hx hb dX12_appends_17 (by decide) ?_
  refine kx_iadd (v := 14) hx hb dX12_appends_18 (by decide) ?_
  refine lv_i2l (v := 14) hx hb dX12_appends_19 (by decide) ?_
  refine kx_ladd (v := 459824) hx hb dX12_appends_20 (by decide) ?_
  exact kr_l hx hb hr hlocks hP hD hS (u := (() : Unit)) rfl [] rfl (by decide) (Nat.le_of_ble_eq_true rfl) (Nat.le_of_ble_eq_true rfl) dX12_appends_21

set_option maxRecDepth 100000 in
set_option maxHeartbeats 4000000 in
theorem zcX12_appends_21 (l : Launch) (G : va_G) (cy : Nat → ClassId) (ev : Ev) (sz : Nat)   : Met l yX12_appends (WS yX12_appends cX12_appends 3 (some .long)) { frames := 0, cells := 0, slots := 0, locals := 0 } (PB [.long 459824, .int 101] sz G cy ev []) (QBl (S := Unit) (fun (r : Int64) (u : Unit) => r = 12415253) G (fun u => []) (va_A [] sz)) 0 0 (va_A [] sz) := by
  refine met_of (y := yX12_appends) (L := 3) (av := [.long 459824, .int 101]) (Qc := fun A => QBl (S := Unit) (fun (r : Int64) (u : Unit) => r = 12415253) G (fun u => []) A) (by decide) (Nat.le_of_ble_eq_true rfl) ?_
  intro p e s m below meth c hx hb hr hml hown hT hlocks hin hK A hA hE hP hD hS ls hl
  have hown : s.vm.findClass "LieClockModel" = some m.cls := hown
  have hl : lv_has ls 3 [(0, .long 459824), (2, .int 101)] := hl
  refine lv_iload_n hx hb dX12_appends_0 rfl (lv_at hl 1 rfl) ?_
  refine lv_if_ne (tgt := 8) hx hb dX12_appends_1 (by decide) (fun _ => ?_) (fun c => absurd c (by decide))
  refine lv_ldc2 (v := 27) hx hb hown (hT _ tb_1374) dX12_appends_8 ?_
  refine lv_lload_n hx hb dX12_appends_11 rfl (lv_at hl 0 rfl) ?_
  refine kx_lmul (v := 12415248) hx hb dX12_appends_12 (by decide) ?_
  refine lv_iload_n hx hb dX12_appends_13 rfl (lv_at hl 1 rfl) ?_
  refine lv_bipush (v := 97) hx hb dX12_appends_14 (by decide) ?_
  refine kx_isub (v := 4) hx hb dX12_appends_16 (by decide) ?_
  refine lv_iconst (v := 1) hx hb dX12_appends_17 (by decide) ?_
  refine kx_iadd (v := 5) hx hb dX12_appends_18 (by decide) ?_
  refine lv_i2l (v := 5) hx hb dX12_appends_19 (by decide) ?_
  refine kx_ladd (v := 12415253) hx hb dX12_appends_20 (by decide) ?_
  exact kr_l hx hb hr hlocks hP hD hS (u := (() : Unit)) rfl [] rfl (by decide) (Nat.le_of_ble_eq_true rfl) (Nat.le_of_ble_eq_true rfl) dX12_appends_21

set_option maxRecDepth 100000 in
set_option maxHeartbeats 4000000 in
theorem zcX12_appends_22 (l : Launch) (G : va_G) (cy : Nat → ClassId) (ev : Ev) (sz : Nat)   : Met l yX12_appends (WS yX12_appends cX12_appends 3 (some .long)) { frames := 0, cells := 0, slots := 0, locals := 0 } (PB [.long 12415253, .int 115] sz G cy ev []) (QBl (S := Unit) (fun (r : Int64) (u : Unit) => r = 335211850) G (fun u => []) (va_A [] sz)) 0 0 (va_A [] sz) := by
  refine met_of (y := yX12_appends) (L := 3) (av := [.long 12415253, .int 115]) (Qc := fun A => QBl (S := Unit) (fun (r : Int64) (u : Unit) => r = 335211850) G (fun u => []) A) (by decide) (Nat.le_of_ble_eq_true rfl) ?_
  intro p e s m below meth c hx hb hr hml hown hT hlocks hin hK A hA hE hP hD hS ls hl
  have hown : s.vm.findClass "LieClockModel" = some m.cls := hown
  have hl : lv_has ls 3 [(0, .long 12415253), (2, .int 115)] := hl
  refine lv_iload_n hx hb dX12_appends_0 rfl (lv_at hl 1 rfl) ?_
  refine lv_if_ne (tgt := 8) hx hb dX12_appends_1 (by decide) (fun _ => ?_) (fun c => absurd c (by decide))
  refine lv_ldc2 (v := 27) hx hb hown (hT _ tb_1374) dX12_appends_8 ?_
  refine lv_lload_n hx hb dX12_appends_11 rfl (lv_at hl 0 rfl) ?_
  refine kx_lmul (v := 335211831) hx hb dX12_appends_12 (by decide) ?_
  refine lv_iload_n hx hb dX12_appends_13 rfl (lv_at hl 1 rfl) ?_
  refine lv_bipush (v := 97) hx hb dX12_appends_14 (by decide) ?_
  refine kx_isub (v := 18) hx hb dX12_appends_16 (by decide) ?_
  refine lv_iconst (v := 1) hx hb dX12_appends_17 (by decide) ?_
  refine kx_iadd (v := 19) hx hb dX12_appends_18 (by decide) ?_
  refine lv_i2l (v := 19) hx hb dX12_appends_19 (by decide) ?_
  refine kx_ladd (v := 335211850) hx hb dX12_appends_20 (by decide) ?_
  exact kr_l hx hb hr hlocks hP hD hS (u := (() : Unit)) rfl [] rfl (by decide) (Nat.le_of_ble_eq_true rfl) (Nat.le_of_ble_eq_true rfl) dX12_appends_21

set_option maxRecDepth 100000 in
set_option maxHeartbeats 4000000 in
theorem zcX12_appends_23 (l : Launch) (G : va_G) (cy : Nat → ClassId) (ev : Ev) (sz : Nat)   : Met l yX12_appends (WS yX12_appends cX12_appends 3 (some .long)) { frames := 0, cells := 0, slots := 0, locals := 0 } (PB [.long 335211850, .int 115] sz G cy ev []) (QBl (S := Unit) (fun (r : Int64) (u : Unit) => r = 9050719969) G (fun u => []) (va_A [] sz)) 0 0 (va_A [] sz) := by
  refine met_of (y := yX12_appends) (L := 3) (av := [.long 335211850, .int 115]) (Qc := fun A => QBl (S := Unit) (fun (r : Int64) (u : Unit) => r = 9050719969) G (fun u => []) A) (by decide) (Nat.le_of_ble_eq_true rfl) ?_
  intro p e s m below meth c hx hb hr hml hown hT hlocks hin hK A hA hE hP hD hS ls hl
  have hown : s.vm.findClass "LieClockModel" = some m.cls := hown
  have hl : lv_has ls 3 [(0, .long 335211850), (2, .int 115)] := hl
  refine lv_iload_n hx hb dX12_appends_0 rfl (lv_at hl 1 rfl) ?_
  refine lv_if_ne (tgt := 8) hx hb dX12_appends_1 (by decide) (fun _ => ?_) (fun c => absurd c (by decide))
  refine lv_ldc2 (v := 27) hx hb hown (hT _ tb_1374) dX12_appends_8 ?_
  refine lv_lload_n hx hb dX12_appends_11 rfl (lv_at hl 0 rfl) ?_
  refine kx_lmul (v := 9050719950) hx hb dX12_appends_12 (by decide) ?_
  refine lv_iload_n hx hb dX12_appends_13 rfl (lv_at hl 1 rfl) ?_
  refine lv_bipush (v := 97) hx hb dX12_appends_14 (by decide) ?_
  refine kx_isub (v := 18) hx hb dX12_appends_16 (by decide) ?_
  refine lv_iconst (v := 1) hx hb dX12_appends_17 (by decide) ?_
  refine kx_iadd (v := 19) hx hb dX12_appends_18 (by decide) ?_
  refine lv_i2l (v := 19) hx hb dX12_appends_19 (by decide) ?_
  refine kx_ladd (v := 9050719969) hx hb dX12_appends_20 (by decide) ?_
  exact kr_l hx hb hr hlocks hP hD hS (u := (() : Unit)) rfl [] rfl (by decide) (Nat.le_of_ble_eq_true rfl) (Nat.le_of_ble_eq_true rfl) dX12_appends_21

set_option maxRecDepth 100000 in
set_option maxHeartbeats 4000000 in
theorem zcX12_word_4 (l : Launch) (G : va_G) (cy : Nat → ClassId) (ev : Ev) (sz : Nat)   : Met l yX12_word (WS yX12_word cX12_word 7 (some .long)) { frames := 1, cells := 0, slots := 0, locals := 22 } (PB [.int 119, .int 105, .int 116, .int 110, .int 101, .int 115, .int 115] sz G cy ev []) (QBl (S := Unit) (fun (r : Int64) (u : Unit) => r = 9050719969) G (fun u => []) (va_A [] sz)) 0 0 (va_A [] sz) := by
  refine met_of (y := yX12_word) (L := 7) (av := [.int 119, .int 105, .int 116, .int 110, .int 101, .int 115, .int 115]) (Qc := fun A => QBl (S := Unit) (fun (r : Int64) (u : Unit) => r = 9050719969) G (fun u => []) A) (by decide) (Nat.le_of_ble_eq_true rfl) ?_
  intro p e s m below meth c hx hb hr hml hown hT hlocks hin hK A hA hE hP hD hS ls hl
  have hown : s.vm.findClass "LieClockModel" = some m.cls := hown
  have hl : lv_has ls 7 [(0, .int 119), (1, .int 105), (2, .int 116), (3, .int 110), (4, .int 101), (5, .int 115), (6, .int 115)] := hl
  refine lv_lconst (v := 0) hx hb dX12_word_0 (by decide) ?_
  refine lv_iload_n hx hb dX12_word_1 rfl (lv_at hl 0 rfl) ?_
  refine kc_l (W1 := []) (wr := []) [] [] rfl rfl (by decide) (by decide) hP hD hS hA (va_runS (As := [.long 0, .int 119]) (rest := []) ⟨hx, hb, hml, hown, hT⟩ (zcX12_appends_17 l G cy ev _ ) (va_cwS 2 hT (good_S tb_1373 tb_1371 tb_1372 tb_122) rfl rfl rfl (by decide +kernel) ⟨Nat.le_of_ble_eq_true rfl, Nat.le_of_ble_eq_true rfl⟩) (PB.preS hK hE hS hA hP hD [] rfl (by decide)) rfl rfl hl.1 rfl (lv_room (Nat.le_of_ble_eq_true rfl)) dX12_word_2 ⟨Nat.le_of_ble_eq_true rfl, Nat.le_of_ble_eq_true rfl⟩) (fun r u H locs hw hP hD hS => ?_)
  obtain rfl : r = 23 := hw
  obtain ⟨hP, hD⟩ : PD G A [] H := ⟨hP, hD⟩
  refine lv_iload_n hx hb dX12_word_5 rfl (lv_at hl 1 rfl) ?_
  refine kc_l (W1 := []) (wr := []) [] [] rfl rfl (by decide) (by decide) hP hD hS hA (va_runS (As := [.long 23, .int 105]) (rest := []) ⟨hx, hb, hml, hown, hT⟩ (zcX12_appends_18 l G cy ev _ ) (va_cwS 2 hT (good_S tb_1373 tb_1371 tb_1372 tb_122) rfl rfl rfl (by decide +kernel) ⟨Nat.le_of_ble_eq_true rfl, Nat.le_of_ble_eq_true rfl⟩) (PB.preS hK hE hS hA hP hD [] rfl (by decide)) rfl rfl hl.1 rfl (lv_room (Nat.le_of_ble_eq_true rfl)) dX12_word_6 ⟨Nat.le_of_ble_eq_true rfl, Nat.le_of_ble_eq_true rfl⟩) (fun r u H locs hw hP hD hS => ?_)
  obtain rfl : r = 630 := hw
  obtain ⟨hP, hD⟩ : PD G A [] H := ⟨hP, hD⟩
  refine lv_iload_n hx hb dX12_word_9 rfl (lv_at hl 2 rfl) ?_
  refine kc_l (W1 := []) (wr := []) [] [] rfl rfl (by decide) (by decide) hP hD hS hA (va_runS (As := [.long 630, .int 116]) (rest := []) ⟨hx, hb, hml, hown, hT⟩ (zcX12_appends_19 l G cy ev _ ) (va_cwS 2 hT (good_S tb_1373 tb_1371 tb_1372 tb_122) rfl rfl rfl (by decide +kernel) ⟨Nat.le_of_ble_eq_true rfl, Nat.le_of_ble_eq_true rfl⟩) (PB.preS hK hE hS hA hP hD [] rfl (by decide)) rfl rfl hl.1 rfl (lv_room (Nat.le_of_ble_eq_true rfl)) dX12_word_10 ⟨Nat.le_of_ble_eq_true rfl, Nat.le_of_ble_eq_true rfl⟩) (fun r u H locs hw hP hD hS => ?_)
  obtain rfl : r = 17030 := hw
  obtain ⟨hP, hD⟩ : PD G A [] H := ⟨hP, hD⟩
  refine lv_iload_n hx hb dX12_word_13 rfl (lv_at hl 3 rfl) ?_
  refine kc_l (W1 := []) (wr := []) [] [] rfl rfl (by decide) (by decide) hP hD hS hA (va_runS (As := [.long 17030, .int 110]) (rest := []) ⟨hx, hb, hml, hown, hT⟩ (zcX12_appends_20 l G cy ev _ ) (va_cwS 2 hT (good_S tb_1373 tb_1371 tb_1372 tb_122) rfl rfl rfl (by decide +kernel) ⟨Nat.le_of_ble_eq_true rfl, Nat.le_of_ble_eq_true rfl⟩) (PB.preS hK hE hS hA hP hD [] rfl (by decide)) rfl rfl hl.1 rfl (lv_room (Nat.le_of_ble_eq_true rfl)) dX12_word_14 ⟨Nat.le_of_ble_eq_true rfl, Nat.le_of_ble_eq_true rfl⟩) (fun r u H locs hw hP hD hS => ?_)
  obtain rfl : r = 459824 := hw
  obtain ⟨hP, hD⟩ : PD G A [] H := ⟨hP, hD⟩
  refine lv_iload hx hb dX12_word_17 (lv_at hl 4 rfl) ?_
  refine kc_l (W1 := []) (wr := []) [] [] rfl rfl (by decide) (by decide) hP hD hS hA (va_runS (As := [.long 459824, .int 101]) (rest := []) ⟨hx, hb, hml, hown, hT⟩ (zcX12_appends_21 l G cy ev _ ) (va_cwS 2 hT (good_S tb_1373 tb_1371 tb_1372 tb_122) rfl rfl rfl (by decide +kernel) ⟨Nat.le_of_ble_eq_true rfl, Nat.le_of_ble_eq_true rfl⟩) (PB.preS hK hE hS hA hP hD [] rfl (by decide)) rfl rfl hl.1 rfl (lv_room (Nat.le_of_ble_eq_true rfl)) dX12_word_19 ⟨Nat.le_of_ble_eq_true rfl, Nat.le_of_ble_eq_true rfl⟩) (fun r u H locs hw hP hD hS => ?_)
  obtain rfl : r = 12415253 := hw
  obtain ⟨hP, hD⟩ : PD G A [] H := ⟨hP, hD⟩
  refine lv_iload hx hb dX12_word_22 (lv_at hl 5 rfl) ?_
  refine kc_l (W1 := []) (wr := []) [] [] rfl rfl (by decide) (by decide) hP hD hS hA (va_runS (As := [.long 12415253, .int 115]) (rest := []) ⟨hx, hb, hml, hown, hT⟩ (zcX12_appends_22 l G cy ev _ ) (va_cwS 2 hT (good_S tb_1373 tb_1371 tb_1372 tb_122) rfl rfl rfl (by decide +kernel) ⟨Nat.le_of_ble_eq_true rfl, Nat.le_of_ble_eq_true rfl⟩) (PB.preS hK hE hS hA hP hD [] rfl (by decide)) rfl rfl hl.1 rfl (lv_room (Nat.le_of_ble_eq_true rfl)) dX12_word_24 ⟨Nat.le_of_ble_eq_true rfl, Nat.le_of_ble_eq_true rfl⟩) (fun r u H locs hw hP hD hS => ?_)
  obtain rfl : r = 335211850 := hw
  obtain ⟨hP, hD⟩ : PD G A [] H := ⟨hP, hD⟩
  refine lv_iload hx hb dX12_word_27 (lv_at hl 6 rfl) ?_
  refine kc_l (W1 := []) (wr := []) [] [] rfl rfl (by decide) (by decide) hP hD hS hA (va_runS (As := [.long 335211850, .int 115]) (rest := []) ⟨hx, hb, hml, hown, hT⟩ (zcX12_appends_23 l G cy ev _ ) (va_cwS 2 hT (good_S tb_1373 tb_1371 tb_1372 tb_122) rfl rfl rfl (by decide +kernel) ⟨Nat.le_of_ble_eq_true rfl, Nat.le_of_ble_eq_true rfl⟩) (PB.preS hK hE hS hA hP hD [] rfl (by decide)) rfl rfl hl.1 rfl (lv_room (Nat.le_of_ble_eq_true rfl)) dX12_word_29 ⟨Nat.le_of_ble_eq_true rfl, Nat.le_of_ble_eq_true rfl⟩) (fun r u H locs hw hP hD hS => ?_)
  obtain rfl : r = 9050719969 := hw
  obtain ⟨hP, hD⟩ : PD G A [] H := ⟨hP, hD⟩
  exact kr_l hx hb hr hlocks hP hD hS (u := (() : Unit)) rfl [] rfl (by decide) (Nat.le_of_ble_eq_true rfl) (Nat.le_of_ble_eq_true rfl) dX12_word_32

set_option maxRecDepth 100000 in
set_option maxHeartbeats 4000000 in
theorem zcX12_appends_24 (l : Launch) (G : va_G) (cy : Nat → ClassId) (ev : Ev) (sz : Nat)   : Met l yX12_appends (WS yX12_appends cX12_appends 3 (some .long)) { frames := 0, cells := 0, slots := 0, locals := 0 } (PB [.long 23, .int 111] sz G cy ev []) (QBl (S := Unit) (fun (r : Int64) (u : Unit) => r = 636) G (fun u => []) (va_A [] sz)) 0 0 (va_A [] sz) := by
  refine met_of (y := yX12_appends) (L := 3) (av := [.long 23, .int 111]) (Qc := fun A => QBl (S := Unit) (fun (r : Int64) (u : Unit) => r = 636) G (fun u => []) A) (by decide) (Nat.le_of_ble_eq_true rfl) ?_
  intro p e s m below meth c hx hb hr hml hown hT hlocks hin hK A hA hE hP hD hS ls hl
  have hown : s.vm.findClass "LieClockModel" = some m.cls := hown
  have hl : lv_has ls 3 [(0, .long 23), (2, .int 111)] := hl
  refine lv_iload_n hx hb dX12_appends_0 rfl (lv_at hl 1 rfl) ?_
  refine lv_if_ne (tgt := 8) hx hb dX12_appends_1 (by decide) (fun _ => ?_) (fun c => absurd c (by decide))
  refine lv_ldc2 (v := 27) hx hb hown (hT _ tb_1374) dX12_appends_8 ?_
  refine lv_lload_n hx hb dX12_appends_11 rfl (lv_at hl 0 rfl) ?_
  refine kx_lmul (v := 621) hx hb dX12_appends_12 (by decide) ?_
  refine lv_iload_n hx hb dX12_appends_13 rfl (lv_at hl 1 rfl) ?_
  refine lv_bipush (v := 97) hx hb dX12_appends_14 (by decide) ?_
  refine kx_isub (v := 14) hx hb dX12_appends_16 (by decide) ?_
  refine lv_iconst (v := 1) hx hb dX12_appends_17 (by decide) ?_
  refine kx_iadd (v := 15) hx hb dX12_appends_18 (by decide) ?_
  refine lv_i2l (v := 15) hx hb dX12_appends_19 (by decide) ?_
  refine kx_ladd (v := 636) hx hb dX12_appends_20 (by decide) ?_
  exact kr_l hx hb hr hlocks hP hD hS (u := (() : Unit)) rfl [] rfl (by decide) (Nat.le_of_ble_eq_true rfl) (Nat.le_of_ble_eq_true rfl) dX12_appends_21

set_option maxRecDepth 100000 in
set_option maxHeartbeats 4000000 in
theorem zcX12_appends_25 (l : Launch) (G : va_G) (cy : Nat → ClassId) (ev : Ev) (sz : Nat)   : Met l yX12_appends (WS yX12_appends cX12_appends 3 (some .long)) { frames := 0, cells := 0, slots := 0, locals := 0 } (PB [.long 636, .int 114] sz G cy ev []) (QBl (S := Unit) (fun (r : Int64) (u : Unit) => r = 17190) G (fun u => []) (va_A [] sz)) 0 0 (va_A [] sz) := by
  refine met_of (y := yX12_appends) (L := 3) (av := [.long 636, .int 114]) (Qc := fun A => QBl (S := Unit) (fun (r : Int64) (u : Unit) => r = 17190) G (fun u => []) A) (by decide) (Nat.le_of_ble_eq_true rfl) ?_
  intro p e s m below meth c hx hb hr hml hown hT hlocks hin hK A hA hE hP hD hS ls hl
  have hown : s.vm.findClass "LieClockModel" = some m.cls := hown
  have hl : lv_has ls 3 [(0, .long 636), (2, .int 114)] := hl
  refine lv_iload_n hx hb dX12_appends_0 rfl (lv_at hl 1 rfl) ?_
  refine lv_if_ne (tgt := 8) hx hb dX12_appends_1 (by decide) (fun _ => ?_) (fun c => absurd c (by decide))
  refine lv_ldc2 (v := 27) hx hb hown (hT _ tb_1374) dX12_appends_8 ?_
  refine lv_lload_n hx hb dX12_appends_11 rfl (lv_at hl 0 rfl) ?_
  refine kx_lmul (v := 17172) hx hb dX12_appends_12 (by decide) ?_
  refine lv_iload_n hx hb dX12_appends_13 rfl (lv_at hl 1 rfl) ?_
  refine lv_bipush (v := 97) hx hb dX12_appends_14 (by decide) ?_
  refine kx_isub (v := 17) hx hb dX12_appends_16 (by decide) ?_
  refine lv_iconst (v := 1) hx hb dX12_appends_17 (by decide) ?_
  refine kx_iadd (v := 18) hx hb dX12_appends_18 (by decide) ?_
  refine lv_i2l (v := 18) hx hb dX12_appends_19 (by decide) ?_
  refine kx_ladd (v := 17190) hx hb dX12_appends_20 (by decide) ?_
  exact kr_l hx hb hr hlocks hP hD hS (u := (() : Unit)) rfl [] rfl (by decide) (Nat.le_of_ble_eq_true rfl) (Nat.le_of_ble_eq_true rfl) dX12_appends_21

set_option maxRecDepth 100000 in
set_option maxHeartbeats 4000000 in
theorem zcX12_appends_26 (l : Launch) (G : va_G) (cy : Nat → ClassId) (ev : Ev) (sz : Nat)   : Met l yX12_appends (WS yX12_appends cX12_appends 3 (some .long)) { frames := 0, cells := 0, slots := 0, locals := 0 } (PB [.long 17190, .int 100] sz G cy ev []) (QBl (S := Unit) (fun (r : Int64) (u : Unit) => r = 464134) G (fun u => []) (va_A [] sz)) 0 0 (va_A [] sz) := by
  refine met_of (y := yX12_appends) (L := 3) (av := [.long 17190, .int 100]) (Qc := fun A => QBl (S := Unit) (fun (r : Int64) (u : Unit) => r = 464134) G (fun u => []) A) (by decide) (Nat.le_of_ble_eq_true rfl) ?_
  intro p e s m below meth c hx hb hr hml hown hT hlocks hin hK A hA hE hP hD hS ls hl
  have hown : s.vm.findClass "LieClockModel" = some m.cls := hown
  have hl : lv_has ls 3 [(0, .long 17190), (2, .int 100)] := hl
  refine lv_iload_n hx hb dX12_appends_0 rfl (lv_at hl 1 rfl) ?_
  refine lv_if_ne (tgt := 8) hx hb dX12_appends_1 (by decide) (fun _ => ?_) (fun c => absurd c (by decide))
  refine lv_ldc2 (v := 27) hx hb hown (hT _ tb_1374) dX12_appends_8 ?_
  refine lv_lload_n hx hb dX12_appends_11 rfl (lv_at hl 0 rfl) ?_
  refine kx_lmul (v := 464130) hx hb dX12_appends_12 (by decide) ?_
  refine lv_iload_n hx hb dX12_appends_13 rfl (lv_at hl 1 rfl) ?_
  refine lv_bipush (v := 97) hx hb dX12_appends_14 (by decide) ?_
  refine kx_isub (v := 3) hx hb dX12_appends_16 (by decide) ?_
  refine lv_iconst (v := 1) hx hb dX12_appends_17 (by decide) ?_
  refine kx_iadd (v := 4) hx hb dX12_appends_18 (by decide) ?_
  refine lv_i2l (v := 4) hx hb dX12_appends_19 (by decide) ?_
  refine kx_ladd (v := 464134) hx hb dX12_appends_20 (by decide) ?_
  exact kr_l hx hb hr hlocks hP hD hS (u := (() : Unit)) rfl [] rfl (by decide) (Nat.le_of_ble_eq_true rfl) (Nat.le_of_ble_eq_true rfl) dX12_appends_21

set_option maxRecDepth 100000 in
set_option maxHeartbeats 4000000 in
theorem zcX12_appends_27 (l : Launch) (G : va_G) (cy : Nat → ClassId) (ev : Ev) (sz : Nat)   : Met l yX12_appends (WS yX12_appends cX12_appends 3 (some .long)) { frames := 0, cells := 0, slots := 0, locals := 0 } (PB [.long 464134, .int 0] sz G cy ev []) (QBl (S := Unit) (fun (r : Int64) (u : Unit) => r = 464134) G (fun u => []) (va_A [] sz)) 0 0 (va_A [] sz) := by
  refine met_of (y := yX12_appends) (L := 3) (av := [.long 464134, .int 0]) (Qc := fun A => QBl (S := Unit) (fun (r : Int64) (u : Unit) => r = 464134) G (fun u => []) A) (by decide) (Nat.le_of_ble_eq_true rfl) ?_
  intro p e s m below meth c hx hb hr hml hown hT hlocks hin hK A hA hE hP hD hS ls hl
  have hown : s.vm.findClass "LieClockModel" = some m.cls := hown
  have hl : lv_has ls 3 [(0, .long 464134), (2, .int 0)] := hl
  refine lv_iload_n hx hb dX12_appends_0 rfl (lv_at hl 1 rfl) ?_
  refine lv_if_ne (tgt := 8) hx hb dX12_appends_1 (by decide) (fun c => absurd (by decide) c) (fun _ => ?_)
  refine lv_lload_n hx hb dX12_appends_4 rfl (lv_at hl 0 rfl) ?_
  refine lv_goto (tgt := 21) hx hb dX12_appends_5 (by decide) ?_
  exact kr_l hx hb hr hlocks hP hD hS (u := (() : Unit)) rfl [] rfl (by decide) (Nat.le_of_ble_eq_true rfl) (Nat.le_of_ble_eq_true rfl) dX12_appends_21
