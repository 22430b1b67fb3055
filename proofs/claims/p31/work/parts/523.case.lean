set_option maxRecDepth 100000 in
set_option maxHeartbeats 8000000 in
theorem law_c_12 {p : Program} {e : Env} {s : State} {m : MethodId} {below : List Frame} {meth : Method} {c : Code} (l : Launch) {b L : Nat} {xs : Nat → Int32} (hL : L ≤ 3072) (hx : p.tables.exec = Jvm.exec) (hb : c.code = code) (hml : c.maxLocals = 4) (hown : s.vm.findClass "LieClockLaw" = some m.cls) (hT : ∀ w ∈ TB, w.before #[Value.ref b] s = true) (hX : va_X b L xs s s.heap) (hbl : b < s.heap.size) (G : va_G) (cy : Nat → ClassId) (ev : Ew) (hK : KK G cy s) (A : Nat → Prop) (hA : ∀ q : Nat, s.heap.size ≤ q → A q) (hbA : ¬ A b) (hE : EW ev A s s.heap) (K0 ln0 : Nat → Nat) (Ls0 : List Nat) (hW0 : SW K0 ln0 Ls0) (hp0 : Nat → Nat → Value) (ok0 : Ok K0 hp0) (qa900 qa901 : Nat) (km : K0 qa900 = 13) (kx : K0 qa901 = 12) (g0 gn0 : Nat) (hg0 : 256 ≤ g0 ∧ g0 ≤ 131072) (hga0 : g0 ≤ gn0) (pdNS : NSx K0 ln0 hp0 gn0) (pdLW : LW hp0 qa900) (zi3 : Int32) (hz3 : (0 : Int) ≤ zi3.toInt ∧ zi3.toInt ≤ 3066) (hz6 : zi3.toInt + 6 ≤ (L : Nat)) {Q : State → Prop} (kk : ∀ (K ln : Nat → Nat) (Ls : List Nat) (gn : Nat) (hp : Nat → Nat → Value) (H : Heap) (locs : List Loc) (ls : Array Slot), SW K ln Ls → Ok K hp → NSx K ln hp gn → g0 ≤ gn → LW hp qa900 → K qa900 = 13 → K qa901 = 12 → lv_has ls 4 [(0, .ref b), (1, .ref qa901), (2, .ref qa900), (3, .int zi3)] → PW G cy K ln Ls A hp H → va_S A s.heap H locs → W p l e room_1 s m #[Value.ref b] below meth c H locs (400 + (gn - g0)) (100000 + 14 * (gn - g0)) Q (F0 m 1044 ls [])) (H : Heap) (locs : List Loc) (ls : Array Slot) (hl : lv_has ls 4 [(0, .ref b), (1, .ref qa901), (2, .ref qa900), (3, .int zi3)]) (hw : PW G cy K0 ln0 Ls0 A hp0 H) (hS : va_S A s.heap H locs) : W p l e room_1 s m #[Value.ref b] below meth c H locs (400 + (gn0 - g0)) (100000 + 14 * (gn0 - g0)) Q (F0 m 502 ls []) := by
  obtain ⟨K, ln, Ls, gn, hW, ok1, hga, hge, km, kx, pdNS, hw⟩ : ∃ (K ln : Nat → Nat) (Ls : List Nat) (gn : Nat), SW K ln Ls ∧ Ok K hp0 ∧ g0 ≤ gn ∧ gn = gn0 ∧ K qa900 = 13 ∧ K qa901 = 12 ∧ NSx K ln hp0 gn ∧ PW G cy K ln Ls A hp0 H := ⟨K0, ln0, Ls0, gn0, hW0, ok0, hga0, rfl, km, kx, pdNS, hw⟩
  have hgn := NSx.bd pdNS
  refine W.widen (k := 400 + (gn - g0)) (n := 100000 + 14 * (gn - g0)) (by omega) (by omega) ?_
  refine lv_aload_n hx hb dL_law_502 rfl (lv_at hl 1 rfl) ?_
  refine lv_aload_n hx hb dL_law_503 rfl (lv_at hl 0 rfl) ?_
  refine lv_iload_n hx hb dL_law_504 rfl (lv_at hl 3 rfl) ?_
  refine lv_iconst (v := 1) hx hb dL_law_505 (by decide) ?_
  refine lv_iadd hx hb dL_law_506 (lv_topi (fun zi1 ea2 => ?_))
  have bd3 : (1 : Int) ≤ zi1.toInt ∧ zi1.toInt ≤ 3067 := b_iadd ea2 hz3 bc_1 (by decide) (by decide) (by decide) (by decide)
  have qe4 : zi1.toInt = (zi3 : Int32).toInt + (1 : Int32).toInt := e_iadd ea2 hz3 bc_1 (by decide) (by decide)
  have qe5 : zi1.toInt = zi3.toInt + 1 := by have ha : (1 : Int32).toInt = 1 := (by decide); rw [ha] at qe4; exact qe4
  refine va_sld hx hb hX hbl hbA hS (vp_bv (by omega) (by omega)) dL_law_507 (lv_topi (fun zi6 ez7 => ?_))
  refine kq_i hw hS hA (va_runV (As := [.int zi6]) (rest := []) ⟨hx, hb, hml, hown, hT⟩ (cX11_pause_0 l G cy ev K ln Ls hW _ hp0 ok1 qa901 zi6 kx) (cwV 1 hT (good_V tb_1110 tb_1107 tb_1108 tb_1109 tb_105) rfl rfl rfl (by decide +kernel) ⟨Nat.le_of_ble_eq_true rfl, Nat.le_of_ble_eq_true rfl⟩) (pool_preV (ci := 11) hK hE hS hA hw hW kx (by decide) rfl) rfl rfl hl.1 rfl (lv_room (Nat.le_of_ble_eq_true rfl)) dL_law_508 ⟨(show (400 + (gn - g0)) + 0 ≤ 600000 from by omega), (show (100000 + 14 * (gn - g0)) + 0 ≤ 7302250 from by omega)⟩) (fun zi12 hp8 H locs hq11 hw hS => ?_)
  obtain ⟨ok9, F10⟩ := hq11
  have hw : PW G cy K ln Ls A hp8 H := hw
  refine lv_pop hx hb dL_law_511 rfl ?_
  refine lv_aload_n hx hb dL_law_512 rfl (lv_at hl 2 rfl) ?_
  refine lv_aload_n hx hb dL_law_513 rfl (lv_at hl 0 rfl) ?_
  refine lv_iload_n hx hb dL_law_514 rfl (lv_at hl 3 rfl) ?_
  refine lv_iconst (v := 1) hx hb dL_law_515 (by decide) ?_
  refine lv_iadd hx hb dL_law_516 (lv_topi (fun zi13 ea14 => ?_))
  have bd15 : (1 : Int) ≤ zi13.toInt ∧ zi13.toInt ≤ 3067 := b_iadd ea14 hz3 bc_1 (by decide) (by decide) (by decide) (by decide)
  have qe16 : zi13.toInt = (zi3 : Int32).toInt + (1 : Int32).toInt := e_iadd ea14 hz3 bc_1 (by decide) (by decide)
  have qe17 : zi13.toInt = zi3.toInt + 1 := by have ha : (1 : Int32).toInt = 1 := (by decide); rw [ha] at qe16; exact qe16
  refine va_sld hx hb hX hbl hbA hS (vp_bv (by omega) (by omega)) dL_law_517 (lv_topi (fun zi18 ez19 => ?_))
  refine kq_i hw hS hA (va_runV (As := [.int zi18]) (rest := []) ⟨hx, hb, hml, hown, hT⟩ (cX12_pause_0 l G cy ev K ln Ls hW _ hp8 ok9 qa900 zi18 km) (cwV 1 hT (good_V tb_1843 tb_1840 tb_1841 tb_1842 tb_122) rfl rfl rfl (by decide +kernel) ⟨Nat.le_of_ble_eq_true rfl, Nat.le_of_ble_eq_true rfl⟩) (pool_preV (ci := 12) hK hE hS hA hw hW km (by decide) rfl) rfl rfl hl.1 rfl (lv_room (Nat.le_of_ble_eq_true rfl)) dL_law_518 ⟨(show (400 + (gn - g0)) + 0 ≤ 600000 from by omega), (show (100000 + 14 * (gn - g0)) + 0 ≤ 7302250 from by omega)⟩) (fun zi24 hp20 H locs hq23 hw hS => ?_)
  obtain ⟨ok21, F22⟩ := hq23
  have hw : PW G cy K ln Ls A hp20 H := hw
  refine lv_pop hx hb dL_law_521 rfl ?_
  refine lv_goto (tgt := 1044) hx hb dL_law_522 (by decide) ?_
  have pd25 : NSx K ln hp20 gn := NSx_fr ok1  (show Fr [1005, 5005, 8000, 8001, 8002, 8003, 8004, 8005, 8006, 8008, 12008, 12009, 13051, 13053, 40000, 41000, 42000, 92000, 93000, 94000] K hp0 hp20 from (Fr.tr (Fr.tr (Fr.rf) F10 (by decide)) F22 (by decide))) (by decide) pdNS
  have pd26 : LW hp20 qa900 := LW_fr ok1 km (show Fr [1005, 5005, 8000, 8001, 8002, 8003, 8004, 8005, 8006, 8008, 12008, 12009, 13051, 13053, 40000, 41000, 42000, 92000, 93000, 94000] K hp0 hp20 from (Fr.tr (Fr.tr (Fr.rf) F10 (by decide)) F22 (by decide))) (by decide) pdLW
  exact kk K ln Ls gn hp20 _ _ ls hW ok21 pd25 (by omega) pd26 km kx (lv_sub hl [0, 1, 2, 3] rfl) hw hS

set_option maxRecDepth 100000 in
set_option maxHeartbeats 8000000 in
theorem law_c_13 {p : Program} {e : Env} {s : State} {m : MethodId} {below : List Frame} {meth : Method} {c : Code} (l : Launch) {b L : Nat} {xs : Nat → Int32} (hL : L ≤ 3072) (hx : p.tables.exec = Jvm.exec) (hb : c.code = code) (hml : c.maxLocals = 4) (hown : s.vm.findClass "LieClockLaw" = some m.cls) (hT : ∀ w ∈ TB, w.before #[Value.ref b] s = true) (hX : va_X b L xs s s.heap) (hbl : b < s.heap.size) (G : va_G) (cy : Nat → ClassId) (ev : Ew) (hK : KK G cy s) (A : Nat → Prop) (hA : ∀ q : Nat, s.heap.size ≤ q → A q) (hbA : ¬ A b) (hE : EW ev A s s.heap) (K0 ln0 : Nat → Nat) (Ls0 : List Nat) (hW0 : SW K0 ln0 Ls0) (hp0 : Nat → Nat → Value) (ok0 : Ok K0 hp0) (qa900 qa901 : Nat) (km : K0 qa900 = 13) (kx : K0 qa901 = 12) (g0 gn0 : Nat) (hg0 : 256 ≤ g0 ∧ g0 ≤ 131072) (hga0 : g0 ≤ gn0) (pdNS : NSx K0 ln0 hp0 gn0) (pdLW : LW hp0 qa900) (zi3 : Int32) (hz3 : (0 : Int) ≤ zi3.toInt ∧ zi3.toInt ≤ 3066) (hz6 : zi3.toInt + 6 ≤ (L : Nat)) {Q : State → Prop} (kk : ∀ (K ln : Nat → Nat) (Ls : List Nat) (gn : Nat) (hp : Nat → Nat → Value) (H : Heap) (locs : List Loc) (ls : Array Slot), SW K ln Ls → Ok K hp → NSx K ln hp gn → g0 ≤ gn → LW hp qa900 → K qa900 = 13 → K qa901 = 12 → lv_has ls 4 [(0, .ref b), (1, .ref qa901), (2, .ref qa900), (3, .int zi3)] → PW G cy K ln Ls A hp H → va_S A s.heap H locs → W p l e room_1 s m #[Value.ref b] below meth c H locs (400 + (gn - g0)) (100000 + 14 * (gn - g0)) Q (F0 m 1044 ls [])) (H : Heap) (locs : List Loc) (ls : Array Slot) (hl : lv_has ls 4 [(0, .ref b), (1, .ref qa901), (2, .ref qa900), (3, .int zi3)]) (hw : PW G cy K0 ln0 Ls0 A hp0 H) (hS : va_S A s.heap H locs) : W p l e room_1 s m #[Value.ref b] below meth c H locs (400 + (gn0 - g0)) (100000 + 14 * (gn0 - g0)) Q (F0 m 525 ls []) := by
  obtain ⟨K, ln, Ls, gn, hW, ok1, hga, hge, km, kx, pdNS, hw⟩ : ∃ (K ln : Nat → Nat) (Ls : List Nat) (gn : Nat), SW K ln Ls ∧ Ok K hp0 ∧ g0 ≤ gn ∧ gn = gn0 ∧ K qa900 = 13 ∧ K qa901 = 12 ∧ NSx K ln hp0 gn ∧ PW G cy K ln Ls A hp0 H := ⟨K0, ln0, Ls0, gn0, hW0, ok0, hga0, rfl, km, kx, pdNS, hw⟩
  have hgn := NSx.bd pdNS
  refine W.widen (k := 400 + (gn - g0)) (n := 100000 + 14 * (gn - g0)) (by omega) (by omega) ?_
  refine lv_aload_n hx hb dL_law_525 rfl (lv_at hl 1 rfl) ?_
  refine kq_i hw hS hA (va_runV (As := []) (rest := []) ⟨hx, hb, hml, hown, hT⟩ (cX11_undo_0 l G cy ev K ln Ls hW _ hp0 ok1 qa901 kx) (cwV 0 hT (good_V tb_1115 tb_1112 tb_1113 tb_1114 tb_105) rfl rfl rfl (by decide +kernel) ⟨Nat.le_of_ble_eq_true rfl, Nat.le_of_ble_eq_true rfl⟩) (pool_preV (ci := 11) hK hE hS hA hw hW kx (by decide) rfl) rfl rfl hl.1 rfl (lv_room (Nat.le_of_ble_eq_true rfl)) dL_law_526 ⟨(show (400 + (gn - g0)) + 0 ≤ 600000 from by omega), (show (100000 + 14 * (gn - g0)) + 0 ≤ 7302250 from by omega)⟩) (fun zi5 hp1 H locs hq4 hw hS => ?_)
  obtain ⟨ok2, F3, bd6⟩ := hq4
  have hw : PW G cy K ln Ls A hp1 H := hw
  refine lv_pop hx hb dL_law_529 rfl ?_
  refine lv_aload_n hx hb dL_law_530 rfl (lv_at hl 2 rfl) ?_
  refine kq_i hw hS hA (va_runV (As := []) (rest := []) ⟨hx, hb, hml, hown, hT⟩ (cX12_undo_0 l G cy ev K ln Ls hW _ hp1 ok2 qa900 km) (cwV 0 hT (good_V tb_1847 tb_1844 tb_1845 tb_1846 tb_122) rfl rfl rfl (by decide +kernel) ⟨Nat.le_of_ble_eq_true rfl, Nat.le_of_ble_eq_true rfl⟩) (pool_preV (ci := 12) hK hE hS hA hw hW km (by decide) rfl) rfl rfl hl.1 rfl (lv_room (Nat.le_of_ble_eq_true rfl)) dL_law_531 ⟨(show (400 + (gn - g0)) + 0 ≤ 600000 from by omega), (show (100000 + 14 * (gn - g0)) + 0 ≤ 7302250 from by omega)⟩) (fun zi11 hp7 H locs hq10 hw hS => ?_)
  obtain ⟨ok8, F9, bd12, ⟨zi13, eq14, bd15⟩, hc16⟩ := hq10
  have hw : PW G cy K ln Ls A hp7 H := hw
  refine lv_pop hx hb dL_law_534 rfl ?_
  refine lv_goto (tgt := 1044) hx hb dL_law_535 (by decide) ?_
  have pd17 : NSx K ln hp7 gn := NSx_fr ok1  (show Fr [1005, 5005, 8000, 8001, 8002, 8003, 8004, 8005, 12008, 12009, 13053, 40000, 41000, 42000, 92000] K hp0 hp7 from (Fr.tr (Fr.tr (Fr.rf) F3 (by decide)) F9 (by decide))) (by decide) pdNS
  have pd18 : LW hp7 qa900 := LW_fr ok1 km (show Fr [1005, 5005, 8000, 8001, 8002, 8003, 8004, 8005, 12008, 12009, 13053, 40000, 41000, 42000, 92000] K hp0 hp7 from (Fr.tr (Fr.tr (Fr.rf) F3 (by decide)) F9 (by decide))) (by decide) pdLW
  exact kk K ln Ls gn hp7 _ _ ls hW ok8 pd17 (by omega) pd18 km kx (lv_sub hl [0, 1, 2, 3] rfl) hw hS

set_option maxRecDepth 100000 in
set_option maxHeartbeats 8000000 in
theorem law_c_14 {p : Program} {e : Env} {s : State} {m : MethodId} {below : List Frame} {meth : Method} {c : Code} (l : Launch) {b L : Nat} {xs : Nat → Int32} (hL : L ≤ 3072) (hx : p.tables.exec = Jvm.exec) (hb : c.code = code) (hml : c.maxLocals = 4) (hown : s.vm.findClass "LieClockLaw" = some m.cls) (hT : ∀ w ∈ TB, w.before #[Value.ref b] s = true) (hX : va_X b L xs s s.heap) (hbl : b < s.heap.size) (G : va_G) (cy : Nat → ClassId) (ev : Ew) (hK : KK G cy s) (A : Nat → Prop) (hA : ∀ q : Nat, s.heap.size ≤ q → A q) (hbA : ¬ A b) (hE : EW ev A s s.heap) (K0 ln0 : Nat → Nat) (Ls0 : List Nat) (hW0 : SW K0 ln0 Ls0) (hp0 : Nat → Nat → Value) (ok0 : Ok K0 hp0) (qa900 qa901 : Nat) (km : K0 qa900 = 13) (kx : K0 qa901 = 12) (g0 gn0 : Nat) (hg0 : 256 ≤ g0 ∧ g0 ≤ 131072) (hga0 : g0 ≤ gn0) (pdNS : NSx K0 ln0 hp0 gn0) (pdLW : LW hp0 qa900) (zi3 : Int32) (hz3 : (0 : Int) ≤ zi3.toInt ∧ zi3.toInt ≤ 3066) (hz6 : zi3.toInt + 6 ≤ (L : Nat)) {Q : State → Prop} (kk : ∀ (K ln : Nat → Nat) (Ls : List Nat) (gn : Nat) (hp : Nat → Nat → Value) (H : Heap) (locs : List Loc) (ls : Array Slot), SW K ln Ls → Ok K hp → NSx K ln hp gn → g0 ≤ gn → LW hp qa900 → K qa900 = 13 → K qa901 = 12 → lv_has ls 4 [(0, .ref b), (1, .ref qa901), (2, .ref qa900), (3, .int zi3)] → PW G cy K ln Ls A hp H → va_S A s.heap H locs → W p l e room_1 s m #[Value.ref b] below meth c H locs (400 + (gn - g0)) (100000 + 14 * (gn - g0)) Q (F0 m 1044 ls [])) (H : Heap) (locs : List Loc) (ls : Array Slot) (hl : lv_has ls 4 [(0, .ref b), (1, .ref qa901), (2, .ref qa900), (3, .int zi3)]) (hw : PW G cy K0 ln0 Ls0 A hp0 H) (hS : va_S A s.heap H locs) : W p l e room_1 s m #[Value.ref b] below meth c H locs (400 + (gn0 - g0)) (100000 + 14 * (gn0 - g0)) Q (F0 m 538 ls []) := by
  obtain ⟨K, ln, Ls, gn, hW, ok1, hga, hge, km, kx, pdNS, hw⟩ : ∃ (K ln : Nat → Nat) (Ls : List Nat) (gn : Nat), SW K ln Ls ∧ Ok K hp0 ∧ g0 ≤ gn ∧ gn = gn0 ∧ K qa900 = 13 ∧ K qa901 = 12 ∧ NSx K ln hp0 gn ∧ PW G cy K ln Ls A hp0 H := ⟨K0, ln0, Ls0, gn0, hW0, ok0, hga0, rfl, km, kx, pdNS, hw⟩
  have hgn := NSx.bd pdNS
  refine W.widen (k := 400 + (gn - g0)) (n := 100000 + 14 * (gn - g0)) (by omega) (by omega) ?_
  refine lv_aload_n hx hb dL_law_538 rfl (lv_at hl 1 rfl) ?_
  refine lv_aload_n hx hb dL_law_539 rfl (lv_at hl 0 rfl) ?_
  refine lv_iload_n hx hb dL_law_540 rfl (lv_at hl 3 rfl) ?_
  refine lv_iconst (v := 1) hx hb dL_law_541 (by decide) ?_
  refine lv_iadd hx hb dL_law_542 (lv_topi (fun zi1 ea2 => ?_))
  have bd3 : (1 : Int) ≤ zi1.toInt ∧ zi1.toInt ≤ 3067 := b_iadd ea2 hz3 bc_1 (by decide) (by decide) (by decide) (by decide)
  have qe4 : zi1.toInt = (zi3 : Int32).toInt + (1 : Int32).toInt := e_iadd ea2 hz3 bc_1 (by decide) (by decide)
  have qe5 : zi1.toInt = zi3.toInt + 1 := by have ha : (1 : Int32).toInt = 1 := (by decide); rw [ha] at qe4; exact qe4
  refine va_sld hx hb hX hbl hbA hS (vp_bv (by omega) (by omega)) dL_law_543 (lv_topi (fun zi6 ez7 => ?_))
  refine kq_i hw hS hA (va_runV (As := [.int zi6]) (rest := []) ⟨hx, hb, hml, hown, hT⟩ (cX11_would_0 l G cy ev K ln Ls hW _ hp0 ok1 qa901 zi6 kx) (cwV 1 hT (good_V tb_1119 tb_1116 tb_1117 tb_1118 tb_105) rfl rfl rfl (by decide +kernel) ⟨Nat.le_of_ble_eq_true rfl, Nat.le_of_ble_eq_true rfl⟩) (pool_preV (ci := 11) hK hE hS hA hw hW kx (by decide) rfl) rfl rfl hl.1 rfl (lv_room (Nat.le_of_ble_eq_true rfl)) dL_law_544 ⟨(show (400 + (gn - g0)) + 0 ≤ 600000 from by omega), (show (100000 + 14 * (gn - g0)) + 0 ≤ 7302250 from by omega)⟩) (fun zi12 hp8 H locs hq11 hw hS => ?_)
  obtain ⟨ok9, F10⟩ := hq11
  have hw : PW G cy K ln Ls A hp8 H := hw
  refine lv_pop hx hb dL_law_547 rfl ?_
  refine lv_aload_n hx hb dL_law_548 rfl (lv_at hl 2 rfl) ?_
  refine lv_aload_n hx hb dL_law_549 rfl (lv_at hl 0 rfl) ?_
  refine lv_iload_n hx hb dL_law_550 rfl (lv_at hl 3 rfl) ?_
  refine lv_iconst (v := 1) hx hb dL_law_551 (by decide) ?_
  refine lv_iadd hx hb dL_law_552 (lv_topi (fun zi13 ea14 => ?_))
  have bd15 : (1 : Int) ≤ zi13.toInt ∧ zi13.toInt ≤ 3067 := b_iadd ea14 hz3 bc_1 (by decide) (by decide) (by decide) (by decide)
  have qe16 : zi13.toInt = (zi3 : Int32).toInt + (1 : Int32).toInt := e_iadd ea14 hz3 bc_1 (by decide) (by decide)
  have qe17 : zi13.toInt = zi3.toInt + 1 := by have ha : (1 : Int32).toInt = 1 := (by decide); rw [ha] at qe16; exact qe16
  refine va_sld hx hb hX hbl hbA hS (vp_bv (by omega) (by omega)) dL_law_553 (lv_topi (fun zi18 ez19 => ?_))
  have pd20 : LW hp8 qa900 := LW_fr ok1 km (show Fr [3003, 3004, 8000, 8001, 8002, 8003, 8004, 8005, 8006, 8008, 27000, 40000, 41000, 42000] K hp0 hp8 from (Fr.tr (Fr.rf) F10 (by decide))) (by decide) pdLW
  refine kq_i hw hS hA (va_runV (As := [.int zi18]) (rest := []) ⟨hx, hb, hml, hown, hT⟩ (cX12_would_0 l G cy ev K ln Ls hW _ hp8 ok9 qa900 zi18 km pd20) (cwV 1 hT (good_V tb_1851 tb_1848 tb_1849 tb_1850 tb_122) rfl rfl rfl (by decide +kernel) ⟨Nat.le_of_ble_eq_true rfl, Nat.le_of_ble_eq_true rfl⟩) (pool_preV (ci := 12) hK hE hS hA hw hW km (by decide) rfl) rfl rfl hl.1 rfl (lv_room (Nat.le_of_ble_eq_true rfl)) dL_law_554 ⟨(show (400 + (gn - g0)) + 0 ≤ 600000 from by omega), (show (100000 + 14 * (gn - g0)) + 0 ≤ 7302250 from by omega)⟩) (fun zi25 hp21 H locs hq24 hw hS => ?_)
  obtain ⟨ok22, F23⟩ := hq24
  have hw : PW G cy K ln Ls A hp21 H := hw
  refine lv_pop hx hb dL_law_557 rfl ?_
  refine lv_goto (tgt := 1044) hx hb dL_law_558 (by decide) ?_
  have pd26 : NSx K ln hp21 gn := NSx_fr ok1  (show Fr [3003, 3004, 8000, 8001, 8002, 8003, 8004, 8005, 8006, 8008, 13048, 13051, 27000, 40000, 41000, 42000, 90000, 91000, 93000] K hp0 hp21 from (Fr.tr (Fr.tr (Fr.rf) F10 (by decide)) F23 (by decide))) (by decide) pdNS
  have pd27 : LW hp21 qa900 := LW_fr ok9 km (show Fr [13048, 13051, 90000, 91000, 93000] K hp8 hp21 from (Fr.tr (Fr.rf) F23 (by decide))) (by decide) pd20
  exact kk K ln Ls gn hp21 _ _ ls hW ok22 pd26 (by omega) pd27 km kx (lv_sub hl [0, 1, 2, 3] rfl) hw hS

set_option maxRecDepth 100000 in
set_option maxHeartbeats 8000000 in
theorem law_c_15 {p : Program} {e : Env} {s : State} {m : MethodId} {below : List Frame} {meth : Method} {c : Code} (l : Launch) {b L : Nat} {xs : Nat → Int32} (hL : L ≤ 3072) (hx : p.tables.exec = Jvm.exec) (hb : c.code = code) (hml : c.maxLocals = 4) (hown : s.vm.findClass "LieClockLaw" = some m.cls) (hT : ∀ w ∈ TB, w.before #[Value.ref b] s = true) (hX : va_X b L xs s s.heap) (hbl : b < s.heap.size) (G : va_G) (cy : Nat → ClassId) (ev : Ew) (hK : KK G cy s) (A : Nat → Prop) (hA : ∀ q : Nat, s.heap.size ≤ q → A q) (hbA : ¬ A b) (hE : EW ev A s s.heap) (K0 ln0 : Nat → Nat) (Ls0 : List Nat) (hW0 : SW K0 ln0 Ls0) (hp0 : Nat → Nat → Value) (ok0 : Ok K0 hp0) (qa900 qa901 : Nat) (km : K0 qa900 = 13) (kx : K0 qa901 = 12) (g0 gn0 : Nat) (hg0 : 256 ≤ g0 ∧ g0 ≤ 131072) (hga0 : g0 ≤ gn0) (pdNS : NSx K0 ln0 hp0 gn0) (pdLW : LW hp0 qa900) (zi3 : Int32) (hz3 : (0 : Int) ≤ zi3.toInt ∧ zi3.toInt ≤ 3066) (hz6 : zi3.toInt + 6 ≤ (L : Nat)) {Q : State → Prop} (kk : ∀ (K ln : Nat → Nat) (Ls : List Nat) (gn : Nat) (hp : Nat → Nat → Value) (H : Heap) (locs : List Loc) (ls : Array Slot), SW K ln Ls → Ok K hp → NSx K ln hp gn → g0 ≤ gn → LW hp qa900 → K qa900 = 13 → K qa901 = 12 → lv_has ls 4 [(0, .ref b), (1, .ref qa901), (2, .ref qa900), (3, .int zi3)] → PW G cy K ln Ls A hp H → va_S A s.heap H locs → W p l e room_1 s m #[Value.ref b] below meth c H locs (400 + (gn - g0)) (100000 + 14 * (gn - g0)) Q (F0 m 1044 ls [])) (H : Heap) (locs : List Loc) (ls : Array Slot) (hl : lv_has ls 4 [(0, .ref b), (1, .ref qa901), (2, .ref qa900), (3, .int zi3)]) (hw : PW G cy K0 ln0 Ls0 A hp0 H) (hS : va_S A s.heap H locs) : W p l e room_1 s m #[Value.ref b] below meth c H locs (400 + (gn0 - g0)) (100000 + 14 * (gn0 - g0)) Q (F0 m 561 ls []) := by
  obtain ⟨K, ln, Ls, gn, hW, ok1, hga, hge, km, kx, pdNS, hw⟩ : ∃ (K ln : Nat → Nat) (Ls : List Nat) (gn : Nat), SW K ln Ls ∧ Ok K hp0 ∧ g0 ≤ gn ∧ gn = gn0 ∧ K qa900 = 13 ∧ K qa901 = 12 ∧ NSx K ln hp0 gn ∧ PW G cy K ln Ls A hp0 H := ⟨K0, ln0, Ls0, gn0, hW0, ok0, hga0, rfl, km, kx, pdNS, hw⟩
  have hgn := NSx.bd pdNS
  refine W.widen (k := 400 + (gn - g0)) (n := 100000 + 14 * (gn - g0)) (by omega) (by omega) ?_
  refine lv_aload_n hx hb dL_law_561 rfl (lv_at hl 1 rfl) ?_
  refine lv_aload_n hx hb dL_law_562 rfl (lv_at hl 0 rfl) ?_
  refine lv_iload_n hx hb dL_law_563 rfl (lv_at hl 3 rfl) ?_
  refine lv_iconst (v := 1) hx hb dL_law_564 (by decide) ?_
  refine lv_iadd hx hb dL_law_565 (lv_topi (fun zi1 ea2 => ?_))
  have bd3 : (1 : Int) ≤ zi1.toInt ∧ zi1.toInt ≤ 3067 := b_iadd ea2 hz3 bc_1 (by decide) (by decide) (by decide) (by decide)
  have qe4 : zi1.toInt = (zi3 : Int32).toInt + (1 : Int32).toInt := e_iadd ea2 hz3 bc_1 (by decide) (by decide)
  have qe5 : zi1.toInt = zi3.toInt + 1 := by have ha : (1 : Int32).toInt = 1 := (by decide); rw [ha] at qe4; exact qe4
  refine va_sld hx hb hX hbl hbA hS (vp_bv (by omega) (by omega)) dL_law_566 (lv_topi (fun zi6 ez7 => ?_))
  refine lv_aload_n hx hb dL_law_567 rfl (lv_at hl 0 rfl) ?_
  refine lv_iload_n hx hb dL_law_568 rfl (lv_at hl 3 rfl) ?_
  refine lv_iconst (v := 2) hx hb dL_law_569 (by decide) ?_
  refine lv_iadd hx hb dL_law_570 (lv_topi (fun zi8 ea9 => ?_))
  have bd10 : (2 : Int) ≤ zi8.toInt ∧ zi8.toInt ≤ 3068 := b_iadd ea9 hz3 bc_2 (by decide) (by decide) (by decide) (by decide)
  have qe11 : zi8.toInt = (zi3 : Int32).toInt + (2 : Int32).toInt := e_iadd ea9 hz3 bc_2 (by decide) (by decide)
  have qe12 : zi8.toInt = zi3.toInt + 2 := by have ha : (2 : Int32).toInt = 2 := (by decide); rw [ha] at qe11; exact qe11
  refine va_sld hx hb hX hbl hbA hS (vp_bv (by omega) (by omega)) dL_law_571 (lv_topi (fun zi13 ez14 => ?_))
  refine lv_aload_n hx hb dL_law_572 rfl (lv_at hl 0 rfl) ?_
  refine lv_iload_n hx hb dL_law_573 rfl (lv_at hl 3 rfl) ?_
  refine lv_iconst (v := 3) hx hb dL_law_574 (by decide) ?_
  refine lv_iadd hx hb dL_law_575 (lv_topi (fun zi15 ea16 => ?_))
  have bd17 : (3 : Int) ≤ zi15.toInt ∧ zi15.toInt ≤ 3069 := b_iadd ea16 hz3 bc_3 (by decide) (by decide) (by decide) (by decide)
  have qe18 : zi15.toInt = (zi3 : Int32).toInt + (3 : Int32).toInt := e_iadd ea16 hz3 bc_3 (by decide) (by decide)
  have qe19 : zi15.toInt = zi3.toInt + 3 := by have ha : (3 : Int32).toInt = 3 := (by decide); rw [ha] at qe18; exact qe18
  refine va_sld hx hb hX hbl hbA hS (vp_bv (by omega) (by omega)) dL_law_576 (lv_topi (fun zi20 ez21 => ?_))
  refine kg_i hw hS hA (va_runV (As := [.int zi6, .int zi13, .int zi20]) (rest := []) ⟨hx, hb, hml, hown, hT⟩ (Met.szx (cX11_ahead_0 l G cy ev K ln Ls hW _ hp0 ok1 qa901 zi6 zi13 zi20 gn kx pdNS)) (cwV 3 hT (good_V tb_1124 tb_1121 tb_1122 tb_1123 tb_105) rfl rfl rfl (by decide +kernel) ⟨Nat.le_of_ble_eq_true rfl, Nat.le_of_ble_eq_true rfl⟩) (pool_preV (ci := 11) hK hE hS hA hw hW kx (by decide) rfl) rfl rfl hl.1 rfl (lv_room (Nat.le_of_ble_eq_true rfl)) dL_law_577 ⟨(show (400 + (gn - g0)) + 327680 ≤ 600000 from by omega), (show (100000 + 14 * (gn - g0)) + 4580352 ≤ 7302250 from by omega)⟩) (fun zi30 u gn H locs hq22 hw hS => ?_)
  obtain ⟨K, ln, Ls, hp23⟩ := u
  obtain ⟨ex25, hW, ok24, fx26, pd27, hle28⟩ := hq22
  have ex25 : EXx _ _ K ln := ex25
  have hW : SW K ln Ls := hW
  have ok24 : Ok K hp23 := ok24
  have fx26 : FrX _ _ _ hp23 := fx26
  have pd27 : NSx K ln hp23 gn := pd27
  have hle28 : _ ≤ gn := hle28
  have hw : PW G cy K ln Ls A hp23 H := hw
  have pd32 : LW hp23 qa900 := LW_frX ok1 km fx26 pdLW
  have kd33 := EXx.kd ex25 km (by decide)
  have kd34 := EXx.kd ex25 kx (by decide)
  have hgn := NSx.bd pd27
  refine W.widen (k := (400 + (gn - g0))) (n := (100000 + 14 * (gn - g0))) (by omega) (by omega) ?_
  have hga : g0 ≤ gn := by omega
  refine lv_pop hx hb dL_law_580 rfl ?_
  refine lv_aload_n hx hb dL_law_581 rfl (lv_at hl 2 rfl) ?_
  refine lv_aload_n hx hb dL_law_582 rfl (lv_at hl 0 rfl) ?_
  refine lv_iload_n hx hb dL_law_583 rfl (lv_at hl 3 rfl) ?_
  refine lv_iconst (v := 1) hx hb dL_law_584 (by decide) ?_
  refine lv_iadd hx hb dL_law_585 (lv_topi (fun zi35 ea36 => ?_))
  have bd37 : (1 : Int) ≤ zi35.toInt ∧ zi35.toInt ≤ 3067 := b_iadd ea36 hz3 bc_1 (by decide) (by decide) (by decide) (by decide)
  have qe38 : zi35.toInt = (zi3 : Int32).toInt + (1 : Int32).toInt := e_iadd ea36 hz3 bc_1 (by decide) (by decide)
  have qe39 : zi35.toInt = zi3.toInt + 1 := by have ha : (1 : Int32).toInt = 1 := (by decide); rw [ha] at qe38; exact qe38
  refine va_sld hx hb hX hbl hbA hS (vp_bv (by omega) (by omega)) dL_law_586 (lv_topi (fun zi40 ez41 => ?_))
  refine lv_aload_n hx hb dL_law_587 rfl (lv_at hl 0 rfl) ?_
  refine lv_iload_n hx hb dL_law_588 rfl (lv_at hl 3 rfl) ?_
  refine lv_iconst (v := 2) hx hb dL_law_589 (by decide) ?_
  refine lv_iadd hx hb dL_law_590 (lv_topi (fun zi42 ea43 => ?_))
  have bd44 : (2 : Int) ≤ zi42.toInt ∧ zi42.toInt ≤ 3068 := b_iadd ea43 hz3 bc_2 (by decide) (by decide) (by decide) (by decide)
  have qe45 : zi42.toInt = (zi3 : Int32).toInt + (2 : Int32).toInt := e_iadd ea43 hz3 bc_2 (by decide) (by decide)
  have qe46 : zi42.toInt = zi3.toInt + 2 := by have ha : (2 : Int32).toInt = 2 := (by decide); rw [ha] at qe45; exact qe45
  refine va_sld hx hb hX hbl hbA hS (vp_bv (by omega) (by omega)) dL_law_591 (lv_topi (fun zi47 ez48 => ?_))
  refine lv_aload_n hx hb dL_law_592 rfl (lv_at hl 0 rfl) ?_
  refine lv_iload_n hx hb dL_law_593 rfl (lv_at hl 3 rfl) ?_
  refine lv_iconst (v := 3) hx hb dL_law_594 (by decide) ?_
  refine lv_iadd hx hb dL_law_595 (lv_topi (fun zi49 ea50 => ?_))
  have bd51 : (3 : Int) ≤ zi49.toInt ∧ zi49.toInt ≤ 3069 := b_iadd ea50 hz3 bc_3 (by decide) (by decide) (by decide) (by decide)
  have qe52 : zi49.toInt = (zi3 : Int32).toInt + (3 : Int32).toInt := e_iadd ea50 hz3 bc_3 (by decide) (by decide)
  have qe53 : zi49.toInt = zi3.toInt + 3 := by have ha : (3 : Int32).toInt = 3 := (by decide); rw [ha] at qe52; exact qe52
  refine va_sld hx hb hX hbl hbA hS (vp_bv (by omega) (by omega)) dL_law_596 (lv_topi (fun zi54 ez55 => ?_))
  refine kq_i hw hS hA (va_runV (As := [.int zi40, .int zi47, .int zi54]) (rest := []) ⟨hx, hb, hml, hown, hT⟩ (cX12_ahead_0 l G cy ev K ln Ls hW _ hp23 ok24 qa900 zi40 zi47 zi54 kd33 pd32) (cwV 3 hT (good_V tb_1855 tb_1852 tb_1853 tb_1854 tb_122) rfl rfl rfl (by decide +kernel) ⟨Nat.le_of_ble_eq_true rfl, Nat.le_of_ble_eq_true rfl⟩) (pool_preV (ci := 12) hK hE hS hA hw hW kd33 (by decide) rfl) rfl rfl hl.1 rfl (lv_room (Nat.le_of_ble_eq_true rfl)) dL_law_597 ⟨(show (400 + (gn - g0)) + 0 ≤ 600000 from by omega), (show (100000 + 14 * (gn - g0)) + 0 ≤ 7302250 from by omega)⟩) (fun zi60 hp56 H locs hq59 hw hS => ?_)
  obtain ⟨ok57, F58, bd61⟩ := hq59
  have hw : PW G cy K ln Ls A hp56 H := hw
  refine lv_pop hx hb dL_law_600 rfl ?_
  refine lv_goto (tgt := 1044) hx hb dL_law_601 (by decide) ?_
  have pd62 : NSx K ln hp56 gn := NSx_fr ok24  (show Fr [13048, 13051, 13055, 90000, 91000, 93000, 95000] K hp23 hp56 from (Fr.tr (Fr.rf) F58 (by decide))) (by decide) pd27
  have pd63 : LW hp56 qa900 := LW_fr ok24 kd33 (show Fr [13048, 13051, 13055, 90000, 91000, 93000, 95000] K hp23 hp56 from (Fr.tr (Fr.rf) F58 (by decide))) (by decide) pd32
  exact kk K ln Ls gn hp56 _ _ ls hW ok57 pd62 (by omega) pd63 kd33 kd34 (lv_sub hl [0, 1, 2, 3] rfl) hw hS
