set_option maxRecDepth 100000 in
set_option maxHeartbeats 8000000 in
theorem law_c_24 {p : Program} {e : Env} {s : State} {m : MethodId} {below : List Frame} {meth : Method} {c : Code} (l : Launch) {b L : Nat} {xs : Nat → Int32} (hL : L ≤ 3072) (hx : p.tables.exec = Jvm.exec) (hb : c.code = code) (hml : c.maxLocals = 4) (hown : s.vm.findClass "LieClockLaw" = some m.cls) (hT : ∀ w ∈ TB, w.before #[Value.ref b] s = true) (hX : va_X b L xs s s.heap) (hbl : b < s.heap.size) (G : va_G) (cy : Nat → ClassId) (ev : Ew) (hK : KK G cy s) (A : Nat → Prop) (hA : ∀ q : Nat, s.heap.size ≤ q → A q) (hbA : ¬ A b) (hE : EW ev A s s.heap) (K0 ln0 : Nat → Nat) (Ls0 : List Nat) (hW0 : SW K0 ln0 Ls0) (hp0 : Nat → Nat → Value) (ok0 : Ok K0 hp0) (qa900 qa901 : Nat) (km : K0 qa900 = 13) (kx : K0 qa901 = 12) (g0 gn0 : Nat) (hg0 : 256 ≤ g0 ∧ g0 ≤ 131072) (hga0 : g0 ≤ gn0) (pdNS : NSx K0 ln0 hp0 gn0) (pdLW : LW hp0 qa900) (zi3 : Int32) (hz3 : (0 : Int) ≤ zi3.toInt ∧ zi3.toInt ≤ 3066) (hz6 : zi3.toInt + 6 ≤ (L : Nat)) {Q : State → Prop} (kk : ∀ (K ln : Nat → Nat) (Ls : List Nat) (gn : Nat) (hp : Nat → Nat → Value) (H : Heap) (locs : List Loc) (ls : Array Slot), SW K ln Ls → Ok K hp → NSx K ln hp gn → g0 ≤ gn → LW hp qa900 → K qa900 = 13 → K qa901 = 12 → lv_has ls 4 [(0, .ref b), (1, .ref qa901), (2, .ref qa900), (3, .int zi3)] → PW G cy K ln Ls A hp H → va_S A s.heap H locs → W p l e room_1 s m #[Value.ref b] below meth c H locs (400 + (gn - g0)) (100000 + 14 * (gn - g0)) Q (F0 m 1044 ls [])) (H : Heap) (locs : List Loc) (ls : Array Slot) (hl : lv_has ls 4 [(0, .ref b), (1, .ref qa901), (2, .ref qa900), (3, .int zi3)]) (hw : PW G cy K0 ln0 Ls0 A hp0 H) (hS : va_S A s.heap H locs) : W p l e room_1 s m #[Value.ref b] below meth c H locs (400 + (gn0 - g0)) (100000 + 14 * (gn0 - g0)) Q (F0 m 870 ls []) := by
  obtain ⟨K, ln, Ls, gn, hW, ok1, hga, hge, km, kx, pdNS, hw⟩ : ∃ (K ln : Nat → Nat) (Ls : List Nat) (gn : Nat), SW K ln Ls ∧ Ok K hp0 ∧ g0 ≤ gn ∧ gn = gn0 ∧ K qa900 = 13 ∧ K qa901 = 12 ∧ NSx K ln hp0 gn ∧ PW G cy K ln Ls A hp0 H := ⟨K0, ln0, Ls0, gn0, hW0, ok0, hga0, rfl, km, kx, pdNS, hw⟩
  have hgn := NSx.bd pdNS
  refine W.widen (k := 400 + (gn - g0)) (n := 100000 + 14 * (gn - g0)) (by omega) (by omega) ?_
  refine lv_aload_n hx hb dL_law_870 rfl (lv_at hl 1 rfl) ?_
  refine lv_aload_n hx hb dL_law_871 rfl (lv_at hl 0 rfl) ?_
  refine lv_iload_n hx hb dL_law_872 rfl (lv_at hl 3 rfl) ?_
  refine lv_iconst (v := 1) hx hb dL_law_873 (by decide) ?_
  refine lv_iadd hx hb dL_law_874 (lv_topi (fun zi1 ea2 => ?_))
  have bd3 : (1 : Int) ≤ zi1.toInt ∧ zi1.toInt ≤ 3067 := b_iadd ea2 hz3 bc_1 (by decide) (by decide) (by decide) (by decide)
  have qe4 : zi1.toInt = (zi3 : Int32).toInt + (1 : Int32).toInt := e_iadd ea2 hz3 bc_1 (by decide) (by decide)
  have qe5 : zi1.toInt = zi3.toInt + 1 := by have ha : (1 : Int32).toInt = 1 := (by decide); rw [ha] at qe4; exact qe4
  refine va_sld hx hb hX hbl hbA hS (vp_bv (by omega) (by omega)) dL_law_875 (lv_topi (fun zi6 ez7 => ?_))
  refine kq_i hw hS hA (va_runV (As := [.int zi6]) (rest := []) ⟨hx, hb, hml, hown, hT⟩ (cX11_write_0 l G cy ev K ln Ls hW _ hp0 ok1 qa901 zi6 kx) (cwV 1 hT (good_V tb_1298 tb_1295 tb_1296 tb_1297 tb_105) rfl rfl rfl (by decide +kernel) ⟨Nat.le_of_ble_eq_true rfl, Nat.le_of_ble_eq_true rfl⟩) (pool_preV (ci := 11) hK hE hS hA hw hW kx (by decide) rfl) rfl rfl hl.1 rfl (lv_room (Nat.le_of_ble_eq_true rfl)) dL_law_876 ⟨(show (400 + (gn - g0)) + 0 ≤ 600000 from by omega), (show (100000 + 14 * (gn - g0)) + 0 ≤ 7302250 from by omega)⟩) (fun zi12 hp8 H locs hq11 hw hS => ?_)
  obtain ⟨ok9, F10, bd13⟩ := hq11
  have hw : PW G cy K ln Ls A hp8 H := hw
  refine lv_pop hx hb dL_law_879 rfl ?_
  refine lv_aload_n hx hb dL_law_880 rfl (lv_at hl 2 rfl) ?_
  refine lv_aload_n hx hb dL_law_881 rfl (lv_at hl 0 rfl) ?_
  refine lv_iload_n hx hb dL_law_882 rfl (lv_at hl 3 rfl) ?_
  refine lv_iconst (v := 1) hx hb dL_law_883 (by decide) ?_
  refine lv_iadd hx hb dL_law_884 (lv_topi (fun zi14 ea15 => ?_))
  have bd16 : (1 : Int) ≤ zi14.toInt ∧ zi14.toInt ≤ 3067 := b_iadd ea15 hz3 bc_1 (by decide) (by decide) (by decide) (by decide)
  have qe17 : zi14.toInt = (zi3 : Int32).toInt + (1 : Int32).toInt := e_iadd ea15 hz3 bc_1 (by decide) (by decide)
  have qe18 : zi14.toInt = zi3.toInt + 1 := by have ha : (1 : Int32).toInt = 1 := (by decide); rw [ha] at qe17; exact qe17
  refine va_sld hx hb hX hbl hbA hS (vp_bv (by omega) (by omega)) dL_law_885 (lv_topi (fun zi19 ez20 => ?_))
  refine kq_i hw hS hA (va_runV (As := [.int zi19]) (rest := []) ⟨hx, hb, hml, hown, hT⟩ (cX12_write_0 l G cy ev K ln Ls hW _ hp8 ok9 qa900 zi19 km) (cwV 1 hT (good_V tb_1925 tb_1922 tb_1923 tb_1924 tb_122) rfl rfl rfl (by decide +kernel) ⟨Nat.le_of_ble_eq_true rfl, Nat.le_of_ble_eq_true rfl⟩) (pool_preV (ci := 12) hK hE hS hA hw hW km (by decide) rfl) rfl rfl hl.1 rfl (lv_room (Nat.le_of_ble_eq_true rfl)) dL_law_886 ⟨(show (400 + (gn - g0)) + 0 ≤ 600000 from by omega), (show (100000 + 14 * (gn - g0)) + 0 ≤ 7302250 from by omega)⟩) (fun zi25 hp21 H locs hq24 hw hS => ?_)
  obtain ⟨ok22, F23, bd26⟩ := hq24
  have hw : PW G cy K ln Ls A hp21 H := hw
  refine lv_pop hx hb dL_law_889 rfl ?_
  refine lv_goto (tgt := 1044) hx hb dL_law_890 (by decide) ?_
  have pd27 : NSx K ln hp21 gn := NSx_fr ok1  (show Fr [2003, 13061, 21000, 99000] K hp0 hp21 from (Fr.tr (Fr.tr (Fr.rf) F10 (by decide)) F23 (by decide))) (by decide) pdNS
  have pd28 : LW hp21 qa900 := LW_fr ok1 km (show Fr [2003, 13061, 21000, 99000] K hp0 hp21 from (Fr.tr (Fr.tr (Fr.rf) F10 (by decide)) F23 (by decide))) (by decide) pdLW
  exact kk K ln Ls gn hp21 _ _ ls hW ok22 pd27 (by omega) pd28 km kx (lv_sub hl [0, 1, 2, 3] rfl) hw hS

set_option maxRecDepth 100000 in
set_option maxHeartbeats 8000000 in
theorem law_c_25 {p : Program} {e : Env} {s : State} {m : MethodId} {below : List Frame} {meth : Method} {c : Code} (l : Launch) {b L : Nat} {xs : Nat → Int32} (hL : L ≤ 3072) (hx : p.tables.exec = Jvm.exec) (hb : c.code = code) (hml : c.maxLocals = 4) (hown : s.vm.findClass "LieClockLaw" = some m.cls) (hT : ∀ w ∈ TB, w.before #[Value.ref b] s = true) (hX : va_X b L xs s s.heap) (hbl : b < s.heap.size) (G : va_G) (cy : Nat → ClassId) (ev : Ew) (hK : KK G cy s) (A : Nat → Prop) (hA : ∀ q : Nat, s.heap.size ≤ q → A q) (hbA : ¬ A b) (hE : EW ev A s s.heap) (K0 ln0 : Nat → Nat) (Ls0 : List Nat) (hW0 : SW K0 ln0 Ls0) (hp0 : Nat → Nat → Value) (ok0 : Ok K0 hp0) (qa900 qa901 : Nat) (km : K0 qa900 = 13) (kx : K0 qa901 = 12) (g0 gn0 : Nat) (hg0 : 256 ≤ g0 ∧ g0 ≤ 131072) (hga0 : g0 ≤ gn0) (pdNS : NSx K0 ln0 hp0 gn0) (pdLW : LW hp0 qa900) (zi3 : Int32) (hz3 : (0 : Int) ≤ zi3.toInt ∧ zi3.toInt ≤ 3066) (hz6 : zi3.toInt + 6 ≤ (L : Nat)) {Q : State → Prop} (kk : ∀ (K ln : Nat → Nat) (Ls : List Nat) (gn : Nat) (hp : Nat → Nat → Value) (H : Heap) (locs : List Loc) (ls : Array Slot), SW K ln Ls → Ok K hp → NSx K ln hp gn → g0 ≤ gn → LW hp qa900 → K qa900 = 13 → K qa901 = 12 → lv_has ls 4 [(0, .ref b), (1, .ref qa901), (2, .ref qa900), (3, .int zi3)] → PW G cy K ln Ls A hp H → va_S A s.heap H locs → W p l e room_1 s m #[Value.ref b] below meth c H locs (400 + (gn - g0)) (100000 + 14 * (gn - g0)) Q (F0 m 1044 ls [])) (H : Heap) (locs : List Loc) (ls : Array Slot) (hl : lv_has ls 4 [(0, .ref b), (1, .ref qa901), (2, .ref qa900), (3, .int zi3)]) (hw : PW G cy K0 ln0 Ls0 A hp0 H) (hS : va_S A s.heap H locs) : W p l e room_1 s m #[Value.ref b] below meth c H locs (400 + (gn0 - g0)) (100000 + 14 * (gn0 - g0)) Q (F0 m 893 ls []) := by
  obtain ⟨K, ln, Ls, gn, hW, ok1, hga, hge, km, kx, pdNS, hw⟩ : ∃ (K ln : Nat → Nat) (Ls : List Nat) (gn : Nat), SW K ln Ls ∧ Ok K hp0 ∧ g0 ≤ gn ∧ gn = gn0 ∧ K qa900 = 13 ∧ K qa901 = 12 ∧ NSx K ln hp0 gn ∧ PW G cy K ln Ls A hp0 H := ⟨K0, ln0, Ls0, gn0, hW0, ok0, hga0, rfl, km, kx, pdNS, hw⟩
  have hgn := NSx.bd pdNS
  refine W.widen (k := 400 + (gn - g0)) (n := 100000 + 14 * (gn - g0)) (by omega) (by omega) ?_
  refine lv_aload_n hx hb dL_law_893 rfl (lv_at hl 1 rfl) ?_
  refine kq_i hw hS hA (va_runV (As := []) (rest := []) ⟨hx, hb, hml, hown, hT⟩ (cX11_burn_0 l G cy ev K ln Ls hW _ hp0 ok1 qa901 kx) (cwV 0 hT (good_V tb_1308 tb_1305 tb_1306 tb_1307 tb_105) rfl rfl rfl (by decide +kernel) ⟨Nat.le_of_ble_eq_true rfl, Nat.le_of_ble_eq_true rfl⟩) (pool_preV (ci := 11) hK hE hS hA hw hW kx (by decide) rfl) rfl rfl hl.1 rfl (lv_room (Nat.le_of_ble_eq_true rfl)) dL_law_894 ⟨(show (400 + (gn - g0)) + 0 ≤ 600000 from by omega), (show (100000 + 14 * (gn - g0)) + 0 ≤ 7302250 from by omega)⟩) (fun zi5 hp1 H locs hq4 hw hS => ?_)
  obtain ⟨ok2, F3, bd6⟩ := hq4
  have hw : PW G cy K ln Ls A hp1 H := hw
  refine lv_pop hx hb dL_law_897 rfl ?_
  refine lv_aload_n hx hb dL_law_898 rfl (lv_at hl 2 rfl) ?_
  refine kq_i hw hS hA (va_runV (As := []) (rest := []) ⟨hx, hb, hml, hown, hT⟩ (cX12_burn_0 l G cy ev K ln Ls hW _ hp1 ok2 qa900 km) (cwV 0 hT (good_V tb_1929 tb_1926 tb_1927 tb_1928 tb_122) rfl rfl rfl (by decide +kernel) ⟨Nat.le_of_ble_eq_true rfl, Nat.le_of_ble_eq_true rfl⟩) (pool_preV (ci := 12) hK hE hS hA hw hW km (by decide) rfl) rfl rfl hl.1 rfl (lv_room (Nat.le_of_ble_eq_true rfl)) dL_law_899 ⟨(show (400 + (gn - g0)) + 0 ≤ 600000 from by omega), (show (100000 + 14 * (gn - g0)) + 0 ≤ 7302250 from by omega)⟩) (fun zi11 hp7 H locs hq10 hw hS => ?_)
  obtain ⟨ok8, F9, bd12⟩ := hq10
  have hw : PW G cy K ln Ls A hp7 H := hw
  refine lv_pop hx hb dL_law_902 rfl ?_
  refine lv_goto (tgt := 1044) hx hb dL_law_903 (by decide) ?_
  have pd13 : NSx K ln hp7 gn := NSx_fr ok1  (show Fr [2003, 13061, 22000] K hp0 hp7 from (Fr.tr (Fr.tr (Fr.rf) F3 (by decide)) F9 (by decide))) (by decide) pdNS
  have pd14 : LW hp7 qa900 := LW_fr ok1 km (show Fr [2003, 13061, 22000] K hp0 hp7 from (Fr.tr (Fr.tr (Fr.rf) F3 (by decide)) F9 (by decide))) (by decide) pdLW
  exact kk K ln Ls gn hp7 _ _ ls hW ok8 pd13 (by omega) pd14 km kx (lv_sub hl [0, 1, 2, 3] rfl) hw hS

set_option maxRecDepth 100000 in
set_option maxHeartbeats 8000000 in
theorem law_c_26 {p : Program} {e : Env} {s : State} {m : MethodId} {below : List Frame} {meth : Method} {c : Code} (l : Launch) {b L : Nat} {xs : Nat → Int32} (hL : L ≤ 3072) (hx : p.tables.exec = Jvm.exec) (hb : c.code = code) (hml : c.maxLocals = 4) (hown : s.vm.findClass "LieClockLaw" = some m.cls) (hT : ∀ w ∈ TB, w.before #[Value.ref b] s = true) (hX : va_X b L xs s s.heap) (hbl : b < s.heap.size) (G : va_G) (cy : Nat → ClassId) (ev : Ew) (hK : KK G cy s) (A : Nat → Prop) (hA : ∀ q : Nat, s.heap.size ≤ q → A q) (hbA : ¬ A b) (hE : EW ev A s s.heap) (K0 ln0 : Nat → Nat) (Ls0 : List Nat) (hW0 : SW K0 ln0 Ls0) (hp0 : Nat → Nat → Value) (ok0 : Ok K0 hp0) (qa900 qa901 : Nat) (km : K0 qa900 = 13) (kx : K0 qa901 = 12) (g0 gn0 : Nat) (hg0 : 256 ≤ g0 ∧ g0 ≤ 131072) (hga0 : g0 ≤ gn0) (pdNS : NSx K0 ln0 hp0 gn0) (pdLW : LW hp0 qa900) (zi3 : Int32) (hz3 : (0 : Int) ≤ zi3.toInt ∧ zi3.toInt ≤ 3066) (hz6 : zi3.toInt + 6 ≤ (L : Nat)) {Q : State → Prop} (kk : ∀ (K ln : Nat → Nat) (Ls : List Nat) (gn : Nat) (hp : Nat → Nat → Value) (H : Heap) (locs : List Loc) (ls : Array Slot), SW K ln Ls → Ok K hp → NSx K ln hp gn → g0 ≤ gn → LW hp qa900 → K qa900 = 13 → K qa901 = 12 → lv_has ls 4 [(0, .ref b), (1, .ref qa901), (2, .ref qa900), (3, .int zi3)] → PW G cy K ln Ls A hp H → va_S A s.heap H locs → W p l e room_1 s m #[Value.ref b] below meth c H locs (400 + (gn - g0)) (100000 + 14 * (gn - g0)) Q (F0 m 1044 ls [])) (H : Heap) (locs : List Loc) (ls : Array Slot) (hl : lv_has ls 4 [(0, .ref b), (1, .ref qa901), (2, .ref qa900), (3, .int zi3)]) (hw : PW G cy K0 ln0 Ls0 A hp0 H) (hS : va_S A s.heap H locs) : W p l e room_1 s m #[Value.ref b] below meth c H locs (400 + (gn0 - g0)) (100000 + 14 * (gn0 - g0)) Q (F0 m 906 ls []) := by
  obtain ⟨K, ln, Ls, gn, hW, ok1, hga, hge, km, kx, pdNS, hw⟩ : ∃ (K ln : Nat → Nat) (Ls : List Nat) (gn : Nat), SW K ln Ls ∧ Ok K hp0 ∧ g0 ≤ gn ∧ gn = gn0 ∧ K qa900 = 13 ∧ K qa901 = 12 ∧ NSx K ln hp0 gn ∧ PW G cy K ln Ls A hp0 H := ⟨K0, ln0, Ls0, gn0, hW0, ok0, hga0, rfl, km, kx, pdNS, hw⟩
  have hgn := NSx.bd pdNS
  refine W.widen (k := 400 + (gn - g0)) (n := 100000 + 14 * (gn - g0)) (by omega) (by omega) ?_
  refine lv_aload_n hx hb dL_law_906 rfl (lv_at hl 1 rfl) ?_
  refine lv_aload_n hx hb dL_law_907 rfl (lv_at hl 0 rfl) ?_
  refine lv_iload_n hx hb dL_law_908 rfl (lv_at hl 3 rfl) ?_
  refine lv_iconst (v := 1) hx hb dL_law_909 (by decide) ?_
  refine lv_iadd hx hb dL_law_910 (lv_topi (fun zi1 ea2 => ?_))
  have bd3 : (1 : Int) ≤ zi1.toInt ∧ zi1.toInt ≤ 3067 := b_iadd ea2 hz3 bc_1 (by decide) (by decide) (by decide) (by decide)
  have qe4 : zi1.toInt = (zi3 : Int32).toInt + (1 : Int32).toInt := e_iadd ea2 hz3 bc_1 (by decide) (by decide)
  have qe5 : zi1.toInt = zi3.toInt + 1 := by have ha : (1 : Int32).toInt = 1 := (by decide); rw [ha] at qe4; exact qe4
  refine va_sld hx hb hX hbl hbA hS (vp_bv (by omega) (by omega)) dL_law_911 (lv_topi (fun zi6 ez7 => ?_))
  refine kg_l hw hS hA (va_runV (As := [.int zi6]) (rest := []) ⟨hx, hb, hml, hown, hT⟩ (Met.szx (cX11_fits_0 l G cy ev K ln Ls hW _ hp0 ok1 qa901 zi6 gn kx pdNS)) (cwV 1 hT (good_V tb_1312 tb_1309 tb_1310 tb_1311 tb_105) rfl rfl rfl (by decide +kernel) ⟨Nat.le_of_ble_eq_true rfl, Nat.le_of_ble_eq_true rfl⟩) (pool_preV (ci := 11) hK hE hS hA hw hW kx (by decide) rfl) rfl rfl hl.1 rfl (lv_room (Nat.le_of_ble_eq_true rfl)) dL_law_912 ⟨(show (400 + (gn - g0)) + 327680 ≤ 600000 from by omega), (show (100000 + 14 * (gn - g0)) + 4580352 ≤ 7302250 from by omega)⟩) (fun wl16 u gn H locs hq8 hw hS => ?_)
  obtain ⟨K, ln, Ls, hp9⟩ := u
  obtain ⟨ex11, hW, ok10, fx12, pd13, hle14⟩ := hq8
  have ex11 : EXx _ _ K ln := ex11
  have hW : SW K ln Ls := hW
  have ok10 : Ok K hp9 := ok10
  have fx12 : FrX _ _ _ hp9 := fx12
  have pd13 : NSx K ln hp9 gn := pd13
  have hle14 : _ ≤ gn := hle14
  have hw : PW G cy K ln Ls A hp9 H := hw
  have pd18 : LW hp9 qa900 := LW_frX ok1 km fx12 pdLW
  have kd19 := EXx.kd ex11 km (by decide)
  have kd20 := EXx.kd ex11 kx (by decide)
  have hgn := NSx.bd pd13
  refine W.widen (k := (400 + (gn - g0))) (n := (100000 + 14 * (gn - g0))) (by omega) (by omega) ?_
  have hga : g0 ≤ gn := by omega
  refine lv_pop2_2 hx hb dL_law_915 rfl ?_
  refine lv_aload_n hx hb dL_law_916 rfl (lv_at hl 2 rfl) ?_
  refine lv_aload_n hx hb dL_law_917 rfl (lv_at hl 0 rfl) ?_
  refine lv_iload_n hx hb dL_law_918 rfl (lv_at hl 3 rfl) ?_
  refine lv_iconst (v := 1) hx hb dL_law_919 (by decide) ?_
  refine lv_iadd hx hb dL_law_920 (lv_topi (fun zi21 ea22 => ?_))
  have bd23 : (1 : Int) ≤ zi21.toInt ∧ zi21.toInt ≤ 3067 := b_iadd ea22 hz3 bc_1 (by decide) (by decide) (by decide) (by decide)
  have qe24 : zi21.toInt = (zi3 : Int32).toInt + (1 : Int32).toInt := e_iadd ea22 hz3 bc_1 (by decide) (by decide)
  have qe25 : zi21.toInt = zi3.toInt + 1 := by have ha : (1 : Int32).toInt = 1 := (by decide); rw [ha] at qe24; exact qe24
  refine va_sld hx hb hX hbl hbA hS (vp_bv (by omega) (by omega)) dL_law_921 (lv_topi (fun zi26 ez27 => ?_))
  refine kq_l hw hS hA (va_runV (As := [.int zi26]) (rest := []) ⟨hx, hb, hml, hown, hT⟩ (cX12_fits_0 l G cy ev K ln Ls hW _ hp9 ok10 qa900 zi26 kd19 pd18) (cwV 1 hT (good_V tb_1933 tb_1930 tb_1931 tb_1932 tb_122) rfl rfl rfl (by decide +kernel) ⟨Nat.le_of_ble_eq_true rfl, Nat.le_of_ble_eq_true rfl⟩) (pool_preV (ci := 12) hK hE hS hA hw hW kd19 (by decide) rfl) rfl rfl hl.1 rfl (lv_room (Nat.le_of_ble_eq_true rfl)) dL_law_922 ⟨(show (400 + (gn - g0)) + 0 ≤ 600000 from by omega), (show (100000 + 14 * (gn - g0)) + 0 ≤ 7302250 from by omega)⟩) (fun wl32 hp28 H locs hq31 hw hS => ?_)
  obtain ⟨ok29, F30⟩ := hq31
  have hw : PW G cy K ln Ls A hp28 H := hw
  refine lv_pop2_2 hx hb dL_law_925 rfl ?_
  refine lv_goto (tgt := 1044) hx hb dL_law_926 (by decide) ?_
  have pd33 : NSx K ln hp28 gn := NSx_fr ok10  (show Fr [13048, 13051, 13063, 13064, 13065, 90000, 91000, 93000, 95000, 100000] K hp9 hp28 from (Fr.tr (Fr.rf) F30 (by decide))) (by decide) pd13
  have pd34 : LW hp28 qa900 := LW_fr ok10 kd19 (show Fr [13048, 13051, 13063, 13064, 13065, 90000, 91000, 93000, 95000, 100000] K hp9 hp28 from (Fr.tr (Fr.rf) F30 (by decide))) (by decide) pd18
  exact kk K ln Ls gn hp28 _ _ ls hW ok29 pd33 (by omega) pd34 kd19 kd20 (lv_sub hl [0, 1, 2, 3] rfl) hw hS

set_option maxRecDepth 100000 in
set_option maxHeartbeats 8000000 in
theorem law_c_27 {p : Program} {e : Env} {s : State} {m : MethodId} {below : List Frame} {meth : Method} {c : Code} (l : Launch) {b L : Nat} {xs : Nat → Int32} (hL : L ≤ 3072) (hx : p.tables.exec = Jvm.exec) (hb : c.code = code) (hml : c.maxLocals = 4) (hown : s.vm.findClass "LieClockLaw" = some m.cls) (hT : ∀ w ∈ TB, w.before #[Value.ref b] s = true) (hX : va_X b L xs s s.heap) (hbl : b < s.heap.size) (G : va_G) (cy : Nat → ClassId) (ev : Ew) (hK : KK G cy s) (A : Nat → Prop) (hA : ∀ q : Nat, s.heap.size ≤ q → A q) (hbA : ¬ A b) (hE : EW ev A s s.heap) (K0 ln0 : Nat → Nat) (Ls0 : List Nat) (hW0 : SW K0 ln0 Ls0) (hp0 : Nat → Nat → Value) (ok0 : Ok K0 hp0) (qa900 qa901 : Nat) (km : K0 qa900 = 13) (kx : K0 qa901 = 12) (g0 gn0 : Nat) (hg0 : 256 ≤ g0 ∧ g0 ≤ 131072) (hga0 : g0 ≤ gn0) (pdNS : NSx K0 ln0 hp0 gn0) (pdLW : LW hp0 qa900) (zi3 : Int32) (hz3 : (0 : Int) ≤ zi3.toInt ∧ zi3.toInt ≤ 3066) (hz6 : zi3.toInt + 6 ≤ (L : Nat)) {Q : State → Prop} (kk : ∀ (K ln : Nat → Nat) (Ls : List Nat) (gn : Nat) (hp : Nat → Nat → Value) (H : Heap) (locs : List Loc) (ls : Array Slot), SW K ln Ls → Ok K hp → NSx K ln hp gn → g0 ≤ gn → LW hp qa900 → K qa900 = 13 → K qa901 = 12 → lv_has ls 4 [(0, .ref b), (1, .ref qa901), (2, .ref qa900), (3, .int zi3)] → PW G cy K ln Ls A hp H → va_S A s.heap H locs → W p l e room_1 s m #[Value.ref b] below meth c H locs (400 + (gn - g0)) (100000 + 14 * (gn - g0)) Q (F0 m 1044 ls [])) (H : Heap) (locs : List Loc) (ls : Array Slot) (hl : lv_has ls 4 [(0, .ref b), (1, .ref qa901), (2, .ref qa900), (3, .int zi3)]) (hw : PW G cy K0 ln0 Ls0 A hp0 H) (hS : va_S A s.heap H locs) : W p l e room_1 s m #[Value.ref b] below meth c H locs (400 + (gn0 - g0)) (100000 + 14 * (gn0 - g0)) Q (F0 m 929 ls []) := by
  obtain ⟨K, ln, Ls, gn, hW, ok1, hga, hge, km, kx, pdNS, hw⟩ : ∃ (K ln : Nat → Nat) (Ls : List Nat) (gn : Nat), SW K ln Ls ∧ Ok K hp0 ∧ g0 ≤ gn ∧ gn = gn0 ∧ K qa900 = 13 ∧ K qa901 = 12 ∧ NSx K ln hp0 gn ∧ PW G cy K ln Ls A hp0 H := ⟨K0, ln0, Ls0, gn0, hW0, ok0, hga0, rfl, km, kx, pdNS, hw⟩
  have hgn := NSx.bd pdNS
  refine W.widen (k := 400 + (gn - g0)) (n := 100000 + 14 * (gn - g0)) (by omega) (by omega) ?_
  refine lv_aload_n hx hb dL_law_929 rfl (lv_at hl 1 rfl) ?_
  refine lv_aload_n hx hb dL_law_930 rfl (lv_at hl 0 rfl) ?_
  refine lv_iload_n hx hb dL_law_931 rfl (lv_at hl 3 rfl) ?_
  refine lv_iconst (v := 1) hx hb dL_law_932 (by decide) ?_
  refine lv_iadd hx hb dL_law_933 (lv_topi (fun zi1 ea2 => ?_))
  have bd3 : (1 : Int) ≤ zi1.toInt ∧ zi1.toInt ≤ 3067 := b_iadd ea2 hz3 bc_1 (by decide) (by decide) (by decide) (by decide)
  have qe4 : zi1.toInt = (zi3 : Int32).toInt + (1 : Int32).toInt := e_iadd ea2 hz3 bc_1 (by decide) (by decide)
  have qe5 : zi1.toInt = zi3.toInt + 1 := by have ha : (1 : Int32).toInt = 1 := (by decide); rw [ha] at qe4; exact qe4
  refine va_sld hx hb hX hbl hbA hS (vp_bv (by omega) (by omega)) dL_law_934 (lv_topi (fun zi6 ez7 => ?_))
  refine kg_i hw hS hA (va_runV (As := [.int zi6]) (rest := []) ⟨hx, hb, hml, hown, hT⟩ (Met.szx (cX11_surely_0 l G cy ev K ln Ls hW _ hp0 ok1 qa901 zi6 gn kx pdNS)) (cwV 1 hT (good_V tb_1335 tb_1332 tb_1333 tb_1334 tb_105) rfl rfl rfl (by decide +kernel) ⟨Nat.le_of_ble_eq_true rfl, Nat.le_of_ble_eq_true rfl⟩) (pool_preV (ci := 11) hK hE hS hA hw hW kx (by decide) rfl) rfl rfl hl.1 rfl (lv_room (Nat.le_of_ble_eq_true rfl)) dL_law_935 ⟨(show (400 + (gn - g0)) + 327680 ≤ 600000 from by omega), (show (100000 + 14 * (gn - g0)) + 4580352 ≤ 7302250 from by omega)⟩) (fun zi16 u gn H locs hq8 hw hS => ?_)
  obtain ⟨K, ln, Ls, hp9⟩ := u
  obtain ⟨ex11, hW, ok10, fx12, pd13, hle14⟩ := hq8
  have ex11 : EXx _ _ K ln := ex11
  have hW : SW K ln Ls := hW
  have ok10 : Ok K hp9 := ok10
  have fx12 : FrX _ _ _ hp9 := fx12
  have pd13 : NSx K ln hp9 gn := pd13
  have hle14 : _ ≤ gn := hle14
  have hw : PW G cy K ln Ls A hp9 H := hw
  have pd18 : LW hp9 qa900 := LW_frX ok1 km fx12 pdLW
  have kd19 := EXx.kd ex11 km (by decide)
  have kd20 := EXx.kd ex11 kx (by decide)
  have hgn := NSx.bd pd13
  refine W.widen (k := (400 + (gn - g0))) (n := (100000 + 14 * (gn - g0))) (by omega) (by omega) ?_
  have hga : g0 ≤ gn := by omega
  refine lv_pop hx hb dL_law_938 rfl ?_
  refine lv_aload_n hx hb dL_law_939 rfl (lv_at hl 2 rfl) ?_
  refine lv_aload_n hx hb dL_law_940 rfl (lv_at hl 0 rfl) ?_
  refine lv_iload_n hx hb dL_law_941 rfl (lv_at hl 3 rfl) ?_
  refine lv_iconst (v := 1) hx hb dL_law_942 (by decide) ?_
  refine lv_iadd hx hb dL_law_943 (lv_topi (fun zi21 ea22 => ?_))
  have bd23 : (1 : Int) ≤ zi21.toInt ∧ zi21.toInt ≤ 3067 := b_iadd ea22 hz3 bc_1 (by decide) (by decide) (by decide) (by decide)
  have qe24 : zi21.toInt = (zi3 : Int32).toInt + (1 : Int32).toInt := e_iadd ea22 hz3 bc_1 (by decide) (by decide)
  have qe25 : zi21.toInt = zi3.toInt + 1 := by have ha : (1 : Int32).toInt = 1 := (by decide); rw [ha] at qe24; exact qe24
  refine va_sld hx hb hX hbl hbA hS (vp_bv (by omega) (by omega)) dL_law_944 (lv_topi (fun zi26 ez27 => ?_))
  refine kq_i hw hS hA (va_runV (As := [.int zi26]) (rest := []) ⟨hx, hb, hml, hown, hT⟩ (cX12_surely_0 l G cy ev K ln Ls hW _ hp9 ok10 qa900 zi26 kd19 pd18) (cwV 1 hT (good_V tb_1945 tb_1942 tb_1943 tb_1944 tb_122) rfl rfl rfl (by decide +kernel) ⟨Nat.le_of_ble_eq_true rfl, Nat.le_of_ble_eq_true rfl⟩) (pool_preV (ci := 12) hK hE hS hA hw hW kd19 (by decide) rfl) rfl rfl hl.1 rfl (lv_room (Nat.le_of_ble_eq_true rfl)) dL_law_945 ⟨(show (400 + (gn - g0)) + 0 ≤ 600000 from by omega), (show (100000 + 14 * (gn - g0)) + 0 ≤ 7302250 from by omega)⟩) (fun zi32 hp28 H locs hq31 hw hS => ?_)
  obtain ⟨ok29, F30⟩ := hq31
  have hw : PW G cy K ln Ls A hp28 H := hw
  refine lv_pop hx hb dL_law_948 rfl ?_
  refine lv_goto (tgt := 1044) hx hb dL_law_949 (by decide) ?_
  have pd33 : NSx K ln hp28 gn := NSx_fr ok10  (show Fr [13048, 13051, 13063, 13064, 13065, 90000, 91000, 93000, 95000, 100000] K hp9 hp28 from (Fr.tr (Fr.rf) F30 (by decide))) (by decide) pd13
  have pd34 : LW hp28 qa900 := LW_fr ok10 kd19 (show Fr [13048, 13051, 13063, 13064, 13065, 90000, 91000, 93000, 95000, 100000] K hp9 hp28 from (Fr.tr (Fr.rf) F30 (by decide))) (by decide) pd18
  exact kk K ln Ls gn hp28 _ _ ls hW ok29 pd33 (by omega) pd34 kd19 kd20 (lv_sub hl [0, 1, 2, 3] rfl) hw hS
