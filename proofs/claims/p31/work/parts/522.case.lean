set_option maxRecDepth 100000 in
set_option maxHeartbeats 8000000 in
theorem law_c_8 {p : Program} {e : Env} {s : State} {m : MethodId} {below : List Frame} {meth : Method} {c : Code} (l : Launch) {b L : Nat} {xs : Nat → Int32} (hL : L ≤ 3072) (hx : p.tables.exec = Jvm.exec) (hb : c.code = code) (hml : c.maxLocals = 4) (hown : s.vm.findClass "LieClockLaw" = some m.cls) (hT : ∀ w ∈ TB, w.before #[Value.ref b] s = true) (hX : va_X b L xs s s.heap) (hbl : b < s.heap.size) (G : va_G) (cy : Nat → ClassId) (ev : Ew) (hK : KK G cy s) (A : Nat → Prop) (hA : ∀ q : Nat, s.heap.size ≤ q → A q) (hbA : ¬ A b) (hE : EW ev A s s.heap) (K0 ln0 : Nat → Nat) (Ls0 : List Nat) (hW0 : SW K0 ln0 Ls0) (hp0 : Nat → Nat → Value) (ok0 : Ok K0 hp0) (qa900 qa901 : Nat) (km : K0 qa900 = 13) (kx : K0 qa901 = 12) (g0 gn0 : Nat) (hg0 : 256 ≤ g0 ∧ g0 ≤ 131072) (hga0 : g0 ≤ gn0) (pdNS : NSx K0 ln0 hp0 gn0) (pdLW : LW hp0 qa900) (zi3 : Int32) (hz3 : (0 : Int) ≤ zi3.toInt ∧ zi3.toInt ≤ 3066) (hz6 : zi3.toInt + 6 ≤ (L : Nat)) {Q : State → Prop} (kk : ∀ (K ln : Nat → Nat) (Ls : List Nat) (gn : Nat) (hp : Nat → Nat → Value) (H : Heap) (locs : List Loc) (ls : Array Slot), SW K ln Ls → Ok K hp → NSx K ln hp gn → g0 ≤ gn → LW hp qa900 → K qa900 = 13 → K qa901 = 12 → lv_has ls 4 [(0, .ref b), (1, .ref qa901), (2, .ref qa900), (3, .int zi3)] → PW G cy K ln Ls A hp H → va_S A s.heap H locs → W p l e room_1 s m #[Value.ref b] below meth c H locs (400 + (gn - g0)) (100000 + 14 * (gn - g0)) Q (F0 m 1044 ls [])) (H : Heap) (locs : List Loc) (ls : Array Slot) (hl : lv_has ls 4 [(0, .ref b), (1, .ref qa901), (2, .ref qa900), (3, .int zi3)]) (hw : PW G cy K0 ln0 Ls0 A hp0 H) (hS : va_S A s.heap H locs) : W p l e room_1 s m #[Value.ref b] below meth c H locs (400 + (gn0 - g0)) (100000 + 14 * (gn0 - g0)) Q (F0 m 400 ls []) := by
  obtain ⟨K, ln, Ls, gn, hW, ok1, hga, hge, km, kx, pdNS, hw⟩ : ∃ (K ln : Nat → Nat) (Ls : List Nat) (gn : Nat), SW K ln Ls ∧ Ok K hp0 ∧ g0 ≤ gn ∧ gn = gn0 ∧ K qa900 = 13 ∧ K qa901 = 12 ∧ NSx K ln hp0 gn ∧ PW G cy K ln Ls A hp0 H := ⟨K0, ln0, Ls0, gn0, hW0, ok0, hga0, rfl, km, kx, pdNS, hw⟩
  have hgn := NSx.bd pdNS
  refine W.widen (k := 400 + (gn - g0)) (n := 100000 + 14 * (gn - g0)) (by omega) (by omega) ?_
  refine lv_aload_n hx hb dL_law_400 rfl (lv_at hl 1 rfl) ?_
  refine lv_aload_n hx hb dL_law_401 rfl (lv_at hl 0 rfl) ?_
  refine lv_iload_n hx hb dL_law_402 rfl (lv_at hl 3 rfl) ?_
  refine lv_iconst (v := 1) hx hb dL_law_403 (by decide) ?_
  refine lv_iadd hx hb dL_law_404 (lv_topi (fun zi1 ea2 => ?_))
  have bd3 : (1 : Int) ≤ zi1.toInt ∧ zi1.toInt ≤ 3067 := b_iadd ea2 hz3 bc_1 (by decide) (by decide) (by decide) (by decide)
  have qe4 : zi1.toInt = (zi3 : Int32).toInt + (1 : Int32).toInt := e_iadd ea2 hz3 bc_1 (by decide) (by decide)
  have qe5 : zi1.toInt = zi3.toInt + 1 := by have ha : (1 : Int32).toInt = 1 := (by decide); rw [ha] at qe4; exact qe4
  refine va_sld hx hb hX hbl hbA hS (vp_bv (by omega) (by omega)) dL_law_405 (lv_topi (fun zi6 ez7 => ?_))
  refine kq_i hw hS hA (va_runV (As := [.int zi6]) (rest := []) ⟨hx, hb, hml, hown, hT⟩ (cX11_share_0 l G cy ev K ln Ls hW _ hp0 ok1 qa901 zi6 kx) (cwV 1 hT (good_V tb_1021 tb_1018 tb_1019 tb_1020 tb_105) rfl rfl rfl (by decide +kernel) ⟨Nat.le_of_ble_eq_true rfl, Nat.le_of_ble_eq_true rfl⟩) (pool_preV (ci := 11) hK hE hS hA hw hW kx (by decide) rfl) rfl rfl hl.1 rfl (lv_room (Nat.le_of_ble_eq_true rfl)) dL_law_406 ⟨(show (400 + (gn - g0)) + 0 ≤ 600000 from by omega), (show (100000 + 14 * (gn - g0)) + 0 ≤ 7302250 from by omega)⟩) (fun zi12 hp8 H locs hq11 hw hS => ?_)
  obtain ⟨ok9, F10⟩ := hq11
  obtain rfl : hp0 = hp8 := (Fr.nil F10).symm
  have hw : PW G cy K ln Ls A hp0 H := hw
  refine lv_pop hx hb dL_law_409 rfl ?_
  refine lv_aload_n hx hb dL_law_410 rfl (lv_at hl 2 rfl) ?_
  refine lv_aload_n hx hb dL_law_411 rfl (lv_at hl 0 rfl) ?_
  refine lv_iload_n hx hb dL_law_412 rfl (lv_at hl 3 rfl) ?_
  refine lv_iconst (v := 1) hx hb dL_law_413 (by decide) ?_
  refine lv_iadd hx hb dL_law_414 (lv_topi (fun zi13 ea14 => ?_))
  have bd15 : (1 : Int) ≤ zi13.toInt ∧ zi13.toInt ≤ 3067 := b_iadd ea14 hz3 bc_1 (by decide) (by decide) (by decide) (by decide)
  have qe16 : zi13.toInt = (zi3 : Int32).toInt + (1 : Int32).toInt := e_iadd ea14 hz3 bc_1 (by decide) (by decide)
  have qe17 : zi13.toInt = zi3.toInt + 1 := by have ha : (1 : Int32).toInt = 1 := (by decide); rw [ha] at qe16; exact qe16
  refine va_sld hx hb hX hbl hbA hS (vp_bv (by omega) (by omega)) dL_law_415 (lv_topi (fun zi18 ez19 => ?_))
  refine kq_i hw hS hA (va_runV (As := [.int zi18]) (rest := []) ⟨hx, hb, hml, hown, hT⟩ (cX12_share_0 l G cy ev K ln Ls hW _ hp0 ok1 qa900 zi18 km) (cwV 1 hT (good_V tb_1788 tb_1785 tb_1786 tb_1787 tb_122) rfl rfl rfl (by decide +kernel) ⟨Nat.le_of_ble_eq_true rfl, Nat.le_of_ble_eq_true rfl⟩) (pool_preV (ci := 12) hK hE hS hA hw hW km (by decide) rfl) rfl rfl hl.1 rfl (lv_room (Nat.le_of_ble_eq_true rfl)) dL_law_416 ⟨(show (400 + (gn - g0)) + 0 ≤ 600000 from by omega), (show (100000 + 14 * (gn - g0)) + 0 ≤ 7302250 from by omega)⟩) (fun zi24 hp20 H locs hq23 hw hS => ?_)
  obtain ⟨ok21, F22⟩ := hq23
  obtain rfl : hp0 = hp20 := (Fr.nil F22).symm
  have hw : PW G cy K ln Ls A hp0 H := hw
  refine lv_pop hx hb dL_law_419 rfl ?_
  refine lv_goto (tgt := 1044) hx hb dL_law_420 (by decide) ?_
  exact kk K ln Ls gn hp0 _ _ ls hW ok1 pdNS (by omega) pdLW km kx (lv_sub hl [0, 1, 2, 3] rfl) hw hS

set_option maxRecDepth 100000 in
set_option maxHeartbeats 8000000 in
theorem law_c_9 {p : Program} {e : Env} {s : State} {m : MethodId} {below : List Frame} {meth : Method} {c : Code} (l : Launch) {b L : Nat} {xs : Nat → Int32} (hL : L ≤ 3072) (hx : p.tables.exec = Jvm.exec) (hb : c.code = code) (hml : c.maxLocals = 4) (hown : s.vm.findClass "LieClockLaw" = some m.cls) (hT : ∀ w ∈ TB, w.before #[Value.ref b] s = true) (hX : va_X b L xs s s.heap) (hbl : b < s.heap.size) (G : va_G) (cy : Nat → ClassId) (ev : Ew) (hK : KK G cy s) (A : Nat → Prop) (hA : ∀ q : Nat, s.heap.size ≤ q → A q) (hbA : ¬ A b) (hE : EW ev A s s.heap) (K0 ln0 : Nat → Nat) (Ls0 : List Nat) (hW0 : SW K0 ln0 Ls0) (hp0 : Nat → Nat → Value) (ok0 : Ok K0 hp0) (qa900 qa901 : Nat) (km : K0 qa900 = 13) (kx : K0 qa901 = 12) (g0 gn0 : Nat) (hg0 : 256 ≤ g0 ∧ g0 ≤ 131072) (hga0 : g0 ≤ gn0) (pdNS : NSx K0 ln0 hp0 gn0) (pdLW : LW hp0 qa900) (zi3 : Int32) (hz3 : (0 : Int) ≤ zi3.toInt ∧ zi3.toInt ≤ 3066) (hz6 : zi3.toInt + 6 ≤ (L : Nat)) {Q : State → Prop} (kk : ∀ (K ln : Nat → Nat) (Ls : List Nat) (gn : Nat) (hp : Nat → Nat → Value) (H : Heap) (locs : List Loc) (ls : Array Slot), SW K ln Ls → Ok K hp → NSx K ln hp gn → g0 ≤ gn → LW hp qa900 → K qa900 = 13 → K qa901 = 12 → lv_has ls 4 [(0, .ref b), (1, .ref qa901), (2, .ref qa900), (3, .int zi3)] → PW G cy K ln Ls A hp H → va_S A s.heap H locs → W p l e room_1 s m #[Value.ref b] below meth c H locs (400 + (gn - g0)) (100000 + 14 * (gn - g0)) Q (F0 m 1044 ls [])) (H : Heap) (locs : List Loc) (ls : Array Slot) (hl : lv_has ls 4 [(0, .ref b), (1, .ref qa901), (2, .ref qa900), (3, .int zi3)]) (hw : PW G cy K0 ln0 Ls0 A hp0 H) (hS : va_S A s.heap H locs) : W p l e room_1 s m #[Value.ref b] below meth c H locs (400 + (gn0 - g0)) (100000 + 14 * (gn0 - g0)) Q (F0 m 423 ls []) := by
  obtain ⟨K, ln, Ls, gn, hW, ok1, hga, hge, km, kx, pdNS, hw⟩ : ∃ (K ln : Nat → Nat) (Ls : List Nat) (gn : Nat), SW K ln Ls ∧ Ok K hp0 ∧ g0 ≤ gn ∧ gn = gn0 ∧ K qa900 = 13 ∧ K qa901 = 12 ∧ NSx K ln hp0 gn ∧ PW G cy K ln Ls A hp0 H := ⟨K0, ln0, Ls0, gn0, hW0, ok0, hga0, rfl, km, kx, pdNS, hw⟩
  have hgn := NSx.bd pdNS
  refine W.widen (k := 400 + (gn - g0)) (n := 100000 + 14 * (gn - g0)) (by omega) (by omega) ?_
  refine lv_aload_n hx hb dL_law_423 rfl (lv_at hl 1 rfl) ?_
  refine lv_aload_n hx hb dL_law_424 rfl (lv_at hl 0 rfl) ?_
  refine lv_iload_n hx hb dL_law_425 rfl (lv_at hl 3 rfl) ?_
  refine lv_iconst (v := 1) hx hb dL_law_426 (by decide) ?_
  refine lv_iadd hx hb dL_law_427 (lv_topi (fun zi1 ea2 => ?_))
  have bd3 : (1 : Int) ≤ zi1.toInt ∧ zi1.toInt ≤ 3067 := b_iadd ea2 hz3 bc_1 (by decide) (by decide) (by decide) (by decide)
  have qe4 : zi1.toInt = (zi3 : Int32).toInt + (1 : Int32).toInt := e_iadd ea2 hz3 bc_1 (by decide) (by decide)
  have qe5 : zi1.toInt = zi3.toInt + 1 := by have ha : (1 : Int32).toInt = 1 := (by decide); rw [ha] at qe4; exact qe4
  refine va_sld hx hb hX hbl hbA hS (vp_bv (by omega) (by omega)) dL_law_428 (lv_topi (fun zi6 ez7 => ?_))
  refine lv_aload_n hx hb dL_law_429 rfl (lv_at hl 0 rfl) ?_
  refine lv_iload_n hx hb dL_law_430 rfl (lv_at hl 3 rfl) ?_
  refine lv_iconst (v := 2) hx hb dL_law_431 (by decide) ?_
  refine lv_iadd hx hb dL_law_432 (lv_topi (fun zi8 ea9 => ?_))
  have bd10 : (2 : Int) ≤ zi8.toInt ∧ zi8.toInt ≤ 3068 := b_iadd ea9 hz3 bc_2 (by decide) (by decide) (by decide) (by decide)
  have qe11 : zi8.toInt = (zi3 : Int32).toInt + (2 : Int32).toInt := e_iadd ea9 hz3 bc_2 (by decide) (by decide)
  have qe12 : zi8.toInt = zi3.toInt + 2 := by have ha : (2 : Int32).toInt = 2 := (by decide); rw [ha] at qe11; exact qe11
  refine va_sld hx hb hX hbl hbA hS (vp_bv (by omega) (by omega)) dL_law_433 (lv_topi (fun zi13 ez14 => ?_))
  refine kq_i hw hS hA (va_runV (As := [.int zi6, .int zi13]) (rest := []) ⟨hx, hb, hml, hown, hT⟩ (cX11_hearing_0 l G cy ev K ln Ls hW _ hp0 ok1 qa901 zi6 zi13 kx) (cwV 2 hT (good_V tb_1026 tb_1023 tb_1024 tb_1025 tb_105) rfl rfl rfl (by decide +kernel) ⟨Nat.le_of_ble_eq_true rfl, Nat.le_of_ble_eq_true rfl⟩) (pool_preV (ci := 11) hK hE hS hA hw hW kx (by decide) rfl) rfl rfl hl.1 rfl (lv_room (Nat.le_of_ble_eq_true rfl)) dL_law_434 ⟨(show (400 + (gn - g0)) + 0 ≤ 600000 from by omega), (show (100000 + 14 * (gn - g0)) + 0 ≤ 7302250 from by omega)⟩) (fun zi19 hp15 H locs hq18 hw hS => ?_)
  obtain ⟨ok16, F17⟩ := hq18
  obtain rfl : hp0 = hp15 := (Fr.nil F17).symm
  have hw : PW G cy K ln Ls A hp0 H := hw
  refine lv_pop hx hb dL_law_437 rfl ?_
  refine lv_aload_n hx hb dL_law_438 rfl (lv_at hl 2 rfl) ?_
  refine lv_aload_n hx hb dL_law_439 rfl (lv_at hl 0 rfl) ?_
  refine lv_iload_n hx hb dL_law_440 rfl (lv_at hl 3 rfl) ?_
  refine lv_iconst (v := 1) hx hb dL_law_441 (by decide) ?_
  refine lv_iadd hx hb dL_law_442 (lv_topi (fun zi20 ea21 => ?_))
  have bd22 : (1 : Int) ≤ zi20.toInt ∧ zi20.toInt ≤ 3067 := b_iadd ea21 hz3 bc_1 (by decide) (by decide) (by decide) (by decide)
  have qe23 : zi20.toInt = (zi3 : Int32).toInt + (1 : Int32).toInt := e_iadd ea21 hz3 bc_1 (by decide) (by decide)
  have qe24 : zi20.toInt = zi3.toInt + 1 := by have ha : (1 : Int32).toInt = 1 := (by decide); rw [ha] at qe23; exact qe23
  refine va_sld hx hb hX hbl hbA hS (vp_bv (by omega) (by omega)) dL_law_443 (lv_topi (fun zi25 ez26 => ?_))
  refine lv_aload_n hx hb dL_law_444 rfl (lv_at hl 0 rfl) ?_
  refine lv_iload_n hx hb dL_law_445 rfl (lv_at hl 3 rfl) ?_
  refine lv_iconst (v := 2) hx hb dL_law_446 (by decide) ?_
  refine lv_iadd hx hb dL_law_447 (lv_topi (fun zi27 ea28 => ?_))
  have bd29 : (2 : Int) ≤ zi27.toInt ∧ zi27.toInt ≤ 3068 := b_iadd ea28 hz3 bc_2 (by decide) (by decide) (by decide) (by decide)
  have qe30 : zi27.toInt = (zi3 : Int32).toInt + (2 : Int32).toInt := e_iadd ea28 hz3 bc_2 (by decide) (by decide)
  have qe31 : zi27.toInt = zi3.toInt + 2 := by have ha : (2 : Int32).toInt = 2 := (by decide); rw [ha] at qe30; exact qe30
  refine va_sld hx hb hX hbl hbA hS (vp_bv (by omega) (by omega)) dL_law_448 (lv_topi (fun zi32 ez33 => ?_))
  refine kq_i hw hS hA (va_runV (As := [.int zi25, .int zi32]) (rest := []) ⟨hx, hb, hml, hown, hT⟩ (cX12_hearing_0 l G cy ev K ln Ls hW _ hp0 ok1 qa900 zi25 zi32 km) (cwV 2 hT (good_V tb_1793 tb_1790 tb_1791 tb_1792 tb_122) rfl rfl rfl (by decide +kernel) ⟨Nat.le_of_ble_eq_true rfl, Nat.le_of_ble_eq_true rfl⟩) (pool_preV (ci := 12) hK hE hS hA hw hW km (by decide) rfl) rfl rfl hl.1 rfl (lv_room (Nat.le_of_ble_eq_true rfl)) dL_law_449 ⟨(show (400 + (gn - g0)) + 0 ≤ 600000 from by omega), (show (100000 + 14 * (gn - g0)) + 0 ≤ 7302250 from by omega)⟩) (fun zi38 hp34 H locs hq37 hw hS => ?_)
  obtain ⟨ok35, F36⟩ := hq37
  have hw : PW G cy K ln Ls A hp34 H := hw
  refine lv_pop hx hb dL_law_452 rfl ?_
  refine lv_goto (tgt := 1044) hx hb dL_law_453 (by decide) ?_
  have pd39 : NSx K ln hp34 gn := NSx_fr ok1  (show Fr [93000] K hp0 hp34 from (Fr.tr (Fr.rf) F36 (by decide))) (by decide) pdNS
  have pd40 : LW hp34 qa900 := LW_fr ok1 km (show Fr [93000] K hp0 hp34 from (Fr.tr (Fr.rf) F36 (by decide))) (by decide) pdLW
  exact kk K ln Ls gn hp34 _ _ ls hW ok35 pd39 (by omega) pd40 km kx (lv_sub hl [0, 1, 2, 3] rfl) hw hS

set_option maxRecDepth 100000 in
set_option maxHeartbeats 8000000 in
theorem law_c_10 {p : Program} {e : Env} {s : State} {m : MethodId} {below : List Frame} {meth : Method} {c : Code} (l : Launch) {b L : Nat} {xs : Nat → Int32} (hL : L ≤ 3072) (hx : p.tables.exec = Jvm.exec) (hb : c.code = code) (hml : c.maxLocals = 4) (hown : s.vm.findClass "LieClockLaw" = some m.cls) (hT : ∀ w ∈ TB, w.before #[Value.ref b] s = true) (hX : va_X b L xs s s.heap) (hbl : b < s.heap.size) (G : va_G) (cy : Nat → ClassId) (ev : Ew) (hK : KK G cy s) (A : Nat → Prop) (hA : ∀ q : Nat, s.heap.size ≤ q → A q) (hbA : ¬ A b) (hE : EW ev A s s.heap) (K0 ln0 : Nat → Nat) (Ls0 : List Nat) (hW0 : SW K0 ln0 Ls0) (hp0 : Nat → Nat → Value) (ok0 : Ok K0 hp0) (qa900 qa901 : Nat) (km : K0 qa900 = 13) (kx : K0 qa901 = 12) (g0 gn0 : Nat) (hg0 : 256 ≤ g0 ∧ g0 ≤ 131072) (hga0 : g0 ≤ gn0) (pdNS : NSx K0 ln0 hp0 gn0) (pdLW : LW hp0 qa900) (zi3 : Int32) (hz3 : (0 : Int) ≤ zi3.toInt ∧ zi3.toInt ≤ 3066) (hz6 : zi3.toInt + 6 ≤ (L : Nat)) {Q : State → Prop} (kk : ∀ (K ln : Nat → Nat) (Ls : List Nat) (gn : Nat) (hp : Nat → Nat → Value) (H : Heap) (locs : List Loc) (ls : Array Slot), SW K ln Ls → Ok K hp → NSx K ln hp gn → g0 ≤ gn → LW hp qa900 → K qa900 = 13 → K qa901 = 12 → lv_has ls 4 [(0, .ref b), (1, .ref qa901), (2, .ref qa900), (3, .int zi3)] → PW G cy K ln Ls A hp H → va_S A s.heap H locs → W p l e room_1 s m #[Value.ref b] below meth c H locs (400 + (gn - g0)) (100000 + 14 * (gn - g0)) Q (F0 m 1044 ls [])) (H : Heap) (locs : List Loc) (ls : Array Slot) (hl : lv_has ls 4 [(0, .ref b), (1, .ref qa901), (2, .ref qa900), (3, .int zi3)]) (hw : PW G cy K0 ln0 Ls0 A hp0 H) (hS : va_S A s.heap H locs) : W p l e room_1 s m #[Value.ref b] below meth c H locs (400 + (gn0 - g0)) (100000 + 14 * (gn0 - g0)) Q (F0 m 456 ls []) := by
  obtain ⟨K, ln, Ls, gn, hW, ok1, hga, hge, km, kx, pdNS, hw⟩ : ∃ (K ln : Nat → Nat) (Ls : List Nat) (gn : Nat), SW K ln Ls ∧ Ok K hp0 ∧ g0 ≤ gn ∧ gn = gn0 ∧ K qa900 = 13 ∧ K qa901 = 12 ∧ NSx K ln hp0 gn ∧ PW G cy K ln Ls A hp0 H := ⟨K0, ln0, Ls0, gn0, hW0, ok0, hga0, rfl, km, kx, pdNS, hw⟩
  have hgn := NSx.bd pdNS
  refine W.widen (k := 400 + (gn - g0)) (n := 100000 + 14 * (gn - g0)) (by omega) (by omega) ?_
  refine lv_aload_n hx hb dL_law_456 rfl (lv_at hl 1 rfl) ?_
  refine lv_aload_n hx hb dL_law_457 rfl (lv_at hl 0 rfl) ?_
  refine lv_iload_n hx hb dL_law_458 rfl (lv_at hl 3 rfl) ?_
  refine lv_iconst (v := 1) hx hb dL_law_459 (by decide) ?_
  refine lv_iadd hx hb dL_law_460 (lv_topi (fun zi1 ea2 => ?_))
  have bd3 : (1 : Int) ≤ zi1.toInt ∧ zi1.toInt ≤ 3067 := b_iadd ea2 hz3 bc_1 (by decide) (by decide) (by decide) (by decide)
  have qe4 : zi1.toInt = (zi3 : Int32).toInt + (1 : Int32).toInt := e_iadd ea2 hz3 bc_1 (by decide) (by decide)
  have qe5 : zi1.toInt = zi3.toInt + 1 := by have ha : (1 : Int32).toInt = 1 := (by decide); rw [ha] at qe4; exact qe4
  refine va_sld hx hb hX hbl hbA hS (vp_bv (by omega) (by omega)) dL_law_461 (lv_topi (fun zi6 ez7 => ?_))
  refine kq_i hw hS hA (va_runV (As := [.int zi6]) (rest := []) ⟨hx, hb, hml, hown, hT⟩ (cX11_say_0 l G cy ev K ln Ls hW _ hp0 ok1 qa901 zi6 kx) (cwV 1 hT (good_V tb_1039 tb_1036 tb_1037 tb_1038 tb_105) rfl rfl rfl (by decide +kernel) ⟨Nat.le_of_ble_eq_true rfl, Nat.le_of_ble_eq_true rfl⟩) (pool_preV (ci := 11) hK hE hS hA hw hW kx (by decide) rfl) rfl rfl hl.1 rfl (lv_room (Nat.le_of_ble_eq_true rfl)) dL_law_462 ⟨(show (400 + (gn - g0)) + 0 ≤ 600000 from by omega), (show (100000 + 14 * (gn - g0)) + 0 ≤ 7302250 from by omega)⟩) (fun zi12 hp8 H locs hq11 hw hS => ?_)
  obtain ⟨ok9, F10, bd13⟩ := hq11
  have hw : PW G cy K ln Ls A hp8 H := hw
  refine lv_pop hx hb dL_law_465 rfl ?_
  refine lv_aload_n hx hb dL_law_466 rfl (lv_at hl 2 rfl) ?_
  refine lv_aload_n hx hb dL_law_467 rfl (lv_at hl 0 rfl) ?_
  refine lv_iload_n hx hb dL_law_468 rfl (lv_at hl 3 rfl) ?_
  refine lv_iconst (v := 1) hx hb dL_law_469 (by decide) ?_
  refine lv_iadd hx hb dL_law_470 (lv_topi (fun zi14 ea15 => ?_))
  have bd16 : (1 : Int) ≤ zi14.toInt ∧ zi14.toInt ≤ 3067 := b_iadd ea15 hz3 bc_1 (by decide) (by decide) (by decide) (by decide)
  have qe17 : zi14.toInt = (zi3 : Int32).toInt + (1 : Int32).toInt := e_iadd ea15 hz3 bc_1 (by decide) (by decide)
  have qe18 : zi14.toInt = zi3.toInt + 1 := by have ha : (1 : Int32).toInt = 1 := (by decide); rw [ha] at qe17; exact qe17
  refine va_sld hx hb hX hbl hbA hS (vp_bv (by omega) (by omega)) dL_law_471 (lv_topi (fun zi19 ez20 => ?_))
  have pd21 : LW hp8 qa900 := LW_fr ok1 km (show Fr [1005, 3003, 3004, 5005, 8000, 8001, 8002, 8003, 8004, 8005, 8006, 8008, 12008, 12009, 27000, 40000, 41000, 42000] K hp0 hp8 from (Fr.tr (Fr.rf) F10 (by decide))) (by decide) pdLW
  refine kq_i hw hS hA (va_runV (As := [.int zi19]) (rest := []) ⟨hx, hb, hml, hown, hT⟩ (cX12_say_0 l G cy ev K ln Ls hW _ hp8 ok9 qa900 zi19 km pd21) (cwV 1 hT (good_V tb_1805 tb_1802 tb_1803 tb_1804 tb_122) rfl rfl rfl (by decide +kernel) ⟨Nat.le_of_ble_eq_true rfl, Nat.le_of_ble_eq_true rfl⟩) (pool_preV (ci := 12) hK hE hS hA hw hW km (by decide) rfl) rfl rfl hl.1 rfl (lv_room (Nat.le_of_ble_eq_true rfl)) dL_law_472 ⟨(show (400 + (gn - g0)) + 0 ≤ 600000 from by omega), (show (100000 + 14 * (gn - g0)) + 0 ≤ 7302250 from by omega)⟩) (fun zi26 hp22 H locs hq25 hw hS => ?_)
  obtain ⟨ok23, F24, bd27⟩ := hq25
  have hw : PW G cy K ln Ls A hp22 H := hw
  refine lv_pop hx hb dL_law_475 rfl ?_
  refine lv_goto (tgt := 1044) hx hb dL_law_476 (by decide) ?_
  have pd28 : NSx K ln hp22 gn := NSx_fr ok1  (show Fr [1005, 3003, 3004, 5005, 8000, 8001, 8002, 8003, 8004, 8005, 8006, 8008, 12008, 12009, 13048, 13051, 13053, 27000, 40000, 41000, 42000, 90000, 91000, 92000, 93000, 94000] K hp0 hp22 from (Fr.tr (Fr.tr (Fr.rf) F10 (by decide)) F24 (by decide))) (by decide) pdNS
  have pd29 : LW hp22 qa900 := LW_fr ok9 km (show Fr [13048, 13051, 13053, 90000, 91000, 92000, 93000, 94000] K hp8 hp22 from (Fr.tr (Fr.rf) F24 (by decide))) (by decide) pd21
  exact kk K ln Ls gn hp22 _ _ ls hW ok23 pd28 (by omega) pd29 km kx (lv_sub hl [0, 1, 2, 3] rfl) hw hS

set_option maxRecDepth 100000 in
set_option maxHeartbeats 8000000 in
theorem law_c_11 {p : Program} {e : Env} {s : State} {m : MethodId} {below : List Frame} {meth : Method} {c : Code} (l : Launch) {b L : Nat} {xs : Nat → Int32} (hL : L ≤ 3072) (hx : p.tables.exec = Jvm.exec) (hb : c.code = code) (hml : c.maxLocals = 4) (hown : s.vm.findClass "LieClockLaw" = some m.cls) (hT : ∀ w ∈ TB, w.before #[Value.ref b] s = true) (hX : va_X b L xs s s.heap) (hbl : b < s.heap.size) (G : va_G) (cy : Nat → ClassId) (ev : Ew) (hK : KK G cy s) (A : Nat → Prop) (hA : ∀ q : Nat, s.heap.size ≤ q → A q) (hbA : ¬ A b) (hE : EW ev A s s.heap) (K0 ln0 : Nat → Nat) (Ls0 : List Nat) (hW0 : SW K0 ln0 Ls0) (hp0 : Nat → Nat → Value) (ok0 : Ok K0 hp0) (qa900 qa901 : Nat) (km : K0 qa900 = 13) (kx : K0 qa901 = 12) (g0 gn0 : Nat) (hg0 : 256 ≤ g0 ∧ g0 ≤ 131072) (hga0 : g0 ≤ gn0) (pdNS : NSx K0 ln0 hp0 gn0) (pdLW : LW hp0 qa900) (zi3 : Int32) (hz3 : (0 : Int) ≤ zi3.toInt ∧ zi3.toInt ≤ 3066) (hz6 : zi3.toInt + 6 ≤ (L : Nat)) {Q : State → Prop} (kk : ∀ (K ln : Nat → Nat) (Ls : List Nat) (gn : Nat) (hp : Nat → Nat → Value) (H : Heap) (locs : List Loc) (ls : Array Slot), SW K ln Ls → Ok K hp → NSx K ln hp gn → g0 ≤ gn → LW hp qa900 → K qa900 = 13 → K qa901 = 12 → lv_has ls 4 [(0, .ref b), (1, .ref qa901), (2, .ref qa900), (3, .int zi3)] → PW G cy K ln Ls A hp H → va_S A s.heap H locs → W p l e room_1 s m #[Value.ref b] below meth c H locs (400 + (gn - g0)) (100000 + 14 * (gn - g0)) Q (F0 m 1044 ls [])) (H : Heap) (locs : List Loc) (ls : Array Slot) (hl : lv_has ls 4 [(0, .ref b), (1, .ref qa901), (2, .ref qa900), (3, .int zi3)]) (hw : PW G cy K0 ln0 Ls0 A hp0 H) (hS : va_S A s.heap H locs) : W p l e room_1 s m #[Value.ref b] below meth c H locs (400 + (gn0 - g0)) (100000 + 14 * (gn0 - g0)) Q (F0 m 479 ls []) := by
  obtain ⟨K, ln, Ls, gn, hW, ok1, hga, hge, km, kx, pdNS, hw⟩ : ∃ (K ln : Nat → Nat) (Ls : List Nat) (gn : Nat), SW K ln Ls ∧ Ok K hp0 ∧ g0 ≤ gn ∧ gn = gn0 ∧ K qa900 = 13 ∧ K qa901 = 12 ∧ NSx K ln hp0 gn ∧ PW G cy K ln Ls A hp0 H := ⟨K0, ln0, Ls0, gn0, hW0, ok0, hga0, rfl, km, kx, pdNS, hw⟩
  have hgn := NSx.bd pdNS
  refine W.widen (k := 400 + (gn - g0)) (n := 100000 + 14 * (gn - g0)) (by omega) (by omega) ?_
  refine lv_aload_n hx hb dL_law_479 rfl (lv_at hl 1 rfl) ?_
  refine lv_aload_n hx hb dL_law_480 rfl (lv_at hl 0 rfl) ?_
  refine lv_iload_n hx hb dL_law_481 rfl (lv_at hl 3 rfl) ?_
  refine lv_iconst (v := 1) hx hb dL_law_482 (by decide) ?_
  refine lv_iadd hx hb dL_law_483 (lv_topi (fun zi1 ea2 => ?_))
  have bd3 : (1 : Int) ≤ zi1.toInt ∧ zi1.toInt ≤ 3067 := b_iadd ea2 hz3 bc_1 (by decide) (by decide) (by decide) (by decide)
  have qe4 : zi1.toInt = (zi3 : Int32).toInt + (1 : Int32).toInt := e_iadd ea2 hz3 bc_1 (by decide) (by decide)
  have qe5 : zi1.toInt = zi3.toInt + 1 := by have ha : (1 : Int32).toInt = 1 := (by decide); rw [ha] at qe4; exact qe4
  refine va_sld hx hb hX hbl hbA hS (vp_bv (by omega) (by omega)) dL_law_484 (lv_topi (fun zi6 ez7 => ?_))
  refine kq_i hw hS hA (va_runV (As := [.int zi6]) (rest := []) ⟨hx, hb, hml, hown, hT⟩ (cX11_look_0 l G cy ev K ln Ls hW _ hp0 ok1 qa901 zi6 kx) (cwV 1 hT (good_V tb_1102 tb_1099 tb_1100 tb_1101 tb_105) rfl rfl rfl (by decide +kernel) ⟨Nat.le_of_ble_eq_true rfl, Nat.le_of_ble_eq_true rfl⟩) (pool_preV (ci := 11) hK hE hS hA hw hW kx (by decide) rfl) rfl rfl hl.1 rfl (lv_room (Nat.le_of_ble_eq_true rfl)) dL_law_485 ⟨(show (400 + (gn - g0)) + 0 ≤ 600000 from by omega), (show (100000 + 14 * (gn - g0)) + 0 ≤ 7302250 from by omega)⟩) (fun zi12 hp8 H locs hq11 hw hS => ?_)
  obtain ⟨ok9, F10⟩ := hq11
  have hw : PW G cy K ln Ls A hp8 H := hw
  refine lv_pop hx hb dL_law_488 rfl ?_
  refine lv_aload_n hx hb dL_law_489 rfl (lv_at hl 2 rfl) ?_
  refine lv_aload_n hx hb dL_law_490 rfl (lv_at hl 0 rfl) ?_
  refine lv_iload_n hx hb dL_law_491 rfl (lv_at hl 3 rfl) ?_
  refine lv_iconst (v := 1) hx hb dL_law_492 (by decide) ?_
  refine lv_iadd hx hb dL_law_493 (lv_topi (fun zi13 ea14 => ?_))
  have bd15 : (1 : Int) ≤ zi13.toInt ∧ zi13.toInt ≤ 3067 := b_iadd ea14 hz3 bc_1 (by decide) (by decide) (by decide) (by decide)
  have qe16 : zi13.toInt = (zi3 : Int32).toInt + (1 : Int32).toInt := e_iadd ea14 hz3 bc_1 (by decide) (by decide)
  have qe17 : zi13.toInt = zi3.toInt + 1 := by have ha : (1 : Int32).toInt = 1 := (by decide); rw [ha] at qe16; exact qe16
  refine va_sld hx hb hX hbl hbA hS (vp_bv (by omega) (by omega)) dL_law_494 (lv_topi (fun zi18 ez19 => ?_))
  have pd20 : LW hp8 qa900 := LW_fr ok1 km (show Fr [1005, 3003, 3004, 5005, 8000, 8001, 8002, 8003, 8004, 8005, 8006, 8008, 12008, 12009, 27000, 40000, 41000, 42000] K hp0 hp8 from (Fr.tr (Fr.rf) F10 (by decide))) (by decide) pdLW
  refine kq_i hw hS hA (va_runV (As := [.int zi18]) (rest := []) ⟨hx, hb, hml, hown, hT⟩ (cX12_look_0 l G cy ev K ln Ls hW _ hp8 ok9 qa900 zi18 km pd20) (cwV 1 hT (good_V tb_1839 tb_1836 tb_1837 tb_1838 tb_122) rfl rfl rfl (by decide +kernel) ⟨Nat.le_of_ble_eq_true rfl, Nat.le_of_ble_eq_true rfl⟩) (pool_preV (ci := 12) hK hE hS hA hw hW km (by decide) rfl) rfl rfl hl.1 rfl (lv_room (Nat.le_of_ble_eq_true rfl)) dL_law_495 ⟨(show (400 + (gn - g0)) + 0 ≤ 600000 from by omega), (show (100000 + 14 * (gn - g0)) + 0 ≤ 7302250 from by omega)⟩) (fun zi25 hp21 H locs hq24 hw hS => ?_)
  obtain ⟨ok22, F23⟩ := hq24
  have hw : PW G cy K ln Ls A hp21 H := hw
  refine lv_pop hx hb dL_law_498 rfl ?_
  refine lv_goto (tgt := 1044) hx hb dL_law_499 (by decide) ?_
  have pd26 : NSx K ln hp21 gn := NSx_fr ok1  (show Fr [1005, 3003, 3004, 5005, 8000, 8001, 8002, 8003, 8004, 8005, 8006, 8008, 12008, 12009, 13048, 13051, 13053, 27000, 40000, 41000, 42000, 90000, 91000, 92000, 93000, 94000] K hp0 hp21 from (Fr.tr (Fr.tr (Fr.rf) F10 (by decide)) F23 (by decide))) (by decide) pdNS
  have pd27 : LW hp21 qa900 := LW_fr ok9 km (show Fr [13048, 13051, 13053, 90000, 91000, 92000, 93000, 94000] K hp8 hp21 from (Fr.tr (Fr.rf) F23 (by decide))) (by decide) pd20
  exact kk K ln Ls gn hp21 _ _ ls hW ok22 pd26 (by omega) pd27 km kx (lv_sub hl [0, 1, 2, 3] rfl) hw hS
