set_option maxRecDepth 100000 in
set_option maxHeartbeats 8000000 in
theorem law_c_28 {p : Program} {e : Env} {s : State} {m : MethodId} {below : List Frame} {meth : Method} {c : Code} (l : Launch) {b L : Nat} {xs : Nat → Int32} (hL : L ≤ 3072) (hx : p.tables.exec = Jvm.exec) (hb : c.code = code) (hml : c.maxLocals = 4) (hown : s.vm.findClass "LieClockLaw" = some m.cls) (hT : ∀ w ∈ TB, w.before #[Value.ref b] s = true) (hX : va_X b L xs s s.heap) (hbl : b < s.heap.size) (G : va_G) (cy : Nat → ClassId) (ev : Ew) (hK : KK G cy s) (A : Nat → Prop) (hA : ∀ q : Nat, s.heap.size ≤ q → A q) (hbA : ¬ A b) (hE : EW ev A s s.heap) (K0 ln0 : Nat → Nat) (Ls0 : List Nat) (hW0 : SW K0 ln0 Ls0) (hp0 : Nat → Nat → Value) (ok0 : Ok K0 hp0) (qa900 qa901 : Nat) (km : K0 qa900 = 13) (kx : K0 qa901 = 12) (g0 gn0 : Nat) (hg0 : 256 ≤ g0 ∧ g0 ≤ 131072) (hga0 : g0 ≤ gn0) (pdNS : NSx K0 ln0 hp0 gn0) (pdLW : LW hp0 qa900) (zi3 : Int32) (hz3 : (0 : Int) ≤ zi3.toInt ∧ zi3.toInt ≤ 3066) (hz6 : zi3.toInt + 6 ≤ (L : Nat)) {Q : State → Prop} (kk : ∀ (K ln : Nat → Nat) (Ls : List Nat) (gn : Nat) (hp : Nat → Nat → Value) (H : Heap) (locs : List Loc) (ls : Array Slot), SW K ln Ls → Ok K hp → NSx K ln hp gn → g0 ≤ gn → LW hp qa900 → K qa900 = 13 → K qa901 = 12 → lv_has ls 4 [(0, .ref b), (1, .ref qa901), (2, .ref qa900), (3, .int zi3)] → PW G cy K ln Ls A hp H → va_S A s.heap H locs → W p l e room_1 s m #[Value.ref b] below meth c H locs (400 + (gn - g0)) (100000 + 14 * (gn - g0)) Q (F0 m 1044 ls [])) (H : Heap) (locs : List Loc) (ls : Array Slot) (hl : lv_has ls 4 [(0, .ref b), (1, .ref qa901), (2, .ref qa900), (3, .int zi3)]) (hw : PW G cy K0 ln0 Ls0 A hp0 H) (hS : va_S A s.heap H locs) : W p l e room_1 s m #[Value.ref b] below meth c H locs (400 + (gn0 - g0)) (100000 + 14 * (gn0 - g0)) Q (F0 m 952 ls []) := by
  obtain ⟨K, ln, Ls, gn, hW, ok1, hga, hge, km, kx, pdNS, hw⟩ : ∃ (K ln : Nat → Nat) (Ls : List Nat) (gn : Nat), SW K ln Ls ∧ Ok K hp0 ∧ g0 ≤ gn ∧ gn = gn0 ∧ K qa900 = 13 ∧ K qa901 = 12 ∧ NSx K ln hp0 gn ∧ PW G cy K ln Ls A hp0 H := ⟨K0, ln0, Ls0, gn0, hW0, ok0, hga0, rfl, km, kx, pdNS, hw⟩
  have hgn := NSx.bd pdNS
  refine W.widen (k := 400 + (gn - g0)) (n := 100000 + 14 * (gn - g0)) (by omega) (by omega) ?_
  refine lv_aload_n hx hb dL_law_952 rfl (lv_at hl 1 rfl) ?_
  refine lv_aload_n hx hb dL_law_953 rfl (lv_at hl 0 rfl) ?_
  refine lv_iload_n hx hb dL_law_954 rfl (lv_at hl 3 rfl) ?_
  refine lv_iconst (v := 1) hx hb dL_law_955 (by decide) ?_
  refine lv_iadd hx hb dL_law_956 (lv_topi (fun zi1 ea2 => ?_))
  have bd3 : (1 : Int) ≤ zi1.toInt ∧ zi1.toInt ≤ 3067 := b_iadd ea2 hz3 bc_1 (by decide) (by decide) (by decide) (by decide)
  have qe4 : zi1.toInt = (zi3 : Int32).toInt + (1 : Int32).toInt := e_iadd ea2 hz3 bc_1 (by decide) (by decide)
  have qe5 : zi1.toInt = zi3.toInt + 1 := by have ha : (1 : Int32).toInt = 1 := (by decide); rw [ha] at qe4; exact qe4
  refine va_sld hx hb hX hbl hbA hS (vp_bv (by omega) (by omega)) dL_law_957 (lv_topi (fun zi6 ez7 => ?_))
  refine kg_i hw hS hA (va_runV (As := [.int zi6]) (rest := []) ⟨hx, hb, hml, hown, hT⟩ (Met.szx (cX11_liars_0 l G cy ev K ln Ls hW _ hp0 ok1 qa901 zi6 gn kx pdNS)) (cwV 1 hT (good_V tb_1339 tb_1336 tb_1337 tb_1338 tb_105) rfl rfl rfl (by decide +kernel) ⟨Nat.le_of_ble_eq_true rfl, Nat.le_of_ble_eq_true rfl⟩) (pool_preV (ci := 11) hK hE hS hA hw hW kx (by decide) rfl) rfl rfl hl.1 rfl (lv_room (Nat.le_of_ble_eq_true rfl)) dL_law_958 ⟨(show (400 + (gn - g0)) + 327680 ≤ 600000 from by omega), (show (100000 + 14 * (gn - g0)) + 4580352 ≤ 7302250 from by omega)⟩) (fun zi16 u gn H locs hq8 hw hS => ?_)
  obtain ⟨K, ln, Ls, hp9⟩ := u
  obtain ⟨ex11, hW, ok10, fx12, pd13, hle14⟩ := hq8
  have ex11 : EXx _ _ K ln := ex11
  have hW : SW K ln Ls := hW
  have ok10 : Ok K hp9 := ok10
  have fx12 : FrX _ _ _ hp9 := fx12
  have pd13 : NSx K ln hp9 gn := pd13
  have hle14 : _ ≤ gn := hle14
  have hw : PW G cy K ln Ls A hp9 H := hw
  have pd18 : LW hp9 qa900 := LW_frX ok1 km fx12 pdLW
  have kd19 := EXx.kd ex11 km (by decide)
  have kd20 := EXx.kd ex11 kx (by decide)
  have hgn := NSx.bd pd13
  refine W.widen (k := (400 + (gn - g0))) (n := (100000 + 14 * (gn - g0))) (by omega) (by omega) ?_
  have hga : g0 ≤ gn := by omega
  refine lv_pop hx hb dL_law_961 rfl ?_
  refine lv_aload_n hx hb dL_law_962 rfl (lv_at hl 2 rfl) ?_
  refine lv_aload_n hx hb dL_law_963 rfl (lv_at hl 0 rfl) ?_
  refine lv_iload_n hx hb dL_law_964 rfl (lv_at hl 3 rfl) ?_
  refine lv_iconst (v := 1) hx hb dL_law_965 (by decide) ?_
  refine lv_iadd hx hb dL_law_966 (lv_topi (fun zi21 ea22 => ?_))
  have bd23 : (1 : Int) ≤ zi21.toInt ∧ zi21.toInt ≤ 3067 := b_iadd ea22 hz3 bc_1 (by decide) (by decide) (by decide) (by decide)
  have qe24 : zi21.toInt = (zi3 : Int32).toInt + (1 : Int32).toInt := e_iadd ea22 hz3 bc_1 (by decide) (by decide)
  have qe25 : zi21.toInt = zi3.toInt + 1 := by have ha : (1 : Int32).toInt = 1 := (by decide); rw [ha] at qe24; exact qe24
  refine va_sld hx hb hX hbl hbA hS (vp_bv (by omega) (by omega)) dL_law_967 (lv_topi (fun zi26 ez27 => ?_))
  refine kq_i hw hS hA (va_runV (As := [.int zi26]) (rest := []) ⟨hx, hb, hml, hown, hT⟩ (cX12_liars_0 l G cy ev K ln Ls hW _ hp9 ok10 qa900 zi26 kd19 pd18) (cwV 1 hT (good_V tb_1949 tb_1946 tb_1947 tb_1948 tb_122) rfl rfl rfl (by decide +kernel) ⟨Nat.le_of_ble_eq_true rfl, Nat.le_of_ble_eq_true rfl⟩) (pool_preV (ci := 12) hK hE hS hA hw hW kd19 (by decide) rfl) rfl rfl hl.1 rfl (lv_room (Nat.le_of_ble_eq_true rfl)) dL_law_968 ⟨(show (400 + (gn - g0)) + 0 ≤ 600000 from by omega), (show (100000 + 14 * (gn - g0)) + 0 ≤ 7302250 from by omega)⟩) (fun zi32 hp28 H locs hq31 hw hS => ?_)
  obtain ⟨ok29, F30⟩ := hq31
  have hw : PW G cy K ln Ls A hp28 H := hw
  refine lv_pop hx hb dL_law_971 rfl ?_
  refine lv_goto (tgt := 1044) hx hb dL_law_972 (by decide) ?_
  have pd33 : NSx K ln hp28 gn := NSx_fr ok10  (show Fr [13048, 13051, 13063, 13064, 13065, 90000, 91000, 93000, 95000, 100000] K hp9 hp28 from (Fr.tr (Fr.rf) F30 (by decide))) (by decide) pd13
  have pd34 : LW hp28 qa900 := LW_fr ok10 kd19 (show Fr [13048, 13051, 13063, 13064, 13065, 90000, 91000, 93000, 95000, 100000] K hp9 hp28 from (Fr.tr (Fr.rf) F30 (by decide))) (by decide) pd18
  exact kk K ln Ls gn hp28 _ _ ls hW ok29 pd33 (by omega) pd34 kd19 kd20 (lv_sub hl [0, 1, 2, 3] rfl) hw hS

set_option maxRecDepth 100000 in
set_option maxHeartbeats 8000000 in
theorem law_c_29 {p : Program} {e : Env} {s : State} {m : MethodId} {below : List Frame} {meth : Method} {c : Code} (l : Launch) {b L : Nat} {xs : Nat → Int32} (hL : L ≤ 3072) (hx : p.tables.exec = Jvm.exec) (hb : c.code = code) (hml : c.maxLocals = 4) (hown : s.vm.findClass "LieClockLaw" = some m.cls) (hT : ∀ w ∈ TB, w.before #[Value.ref b] s = true) (hX : va_X b L xs s s.heap) (hbl : b < s.heap.size) (G : va_G) (cy : Nat → ClassId) (ev : Ew) (hK : KK G cy s) (A : Nat → Prop) (hA : ∀ q : Nat, s.heap.size ≤ q → A q) (hbA : ¬ A b) (hE : EW ev A s s.heap) (K0 ln0 : Nat → Nat) (Ls0 : List Nat) (hW0 : SW K0 ln0 Ls0) (hp0 : Nat → Nat → Value) (ok0 : Ok K0 hp0) (qa900 qa901 : Nat) (km : K0 qa900 = 13) (kx : K0 qa901 = 12) (g0 gn0 : Nat) (hg0 : 256 ≤ g0 ∧ g0 ≤ 131072) (hga0 : g0 ≤ gn0) (pdNS : NSx K0 ln0 hp0 gn0) (pdLW : LW hp0 qa900) (zi3 : Int32) (hz3 : (0 : Int) ≤ zi3.toInt ∧ zi3.toInt ≤ 3066) (hz6 : zi3.toInt + 6 ≤ (L : Nat)) {Q : State → Prop} (kk : ∀ (K ln : Nat → Nat) (Ls : List Nat) (gn : Nat) (hp : Nat → Nat → Value) (H : Heap) (locs : List Loc) (ls : Array Slot), SW K ln Ls → Ok K hp → NSx K ln hp gn → g0 ≤ gn → LW hp qa900 → K qa900 = 13 → K qa901 = 12 → lv_has ls 4 [(0, .ref b), (1, .ref qa901), (2, .ref qa900), (3, .int zi3)] → PW G cy K ln Ls A hp H → va_S A s.heap H locs → W p l e room_1 s m #[Value.ref b] below meth c H locs (400 + (gn - g0)) (100000 + 14 * (gn - g0)) Q (F0 m 1044 ls [])) (H : Heap) (locs : List Loc) (ls : Array Slot) (hl : lv_has ls 4 [(0, .ref b), (1, .ref qa901), (2, .ref qa900), (3, .int zi3)]) (hw : PW G cy K0 ln0 Ls0 A hp0 H) (hS : va_S A s.heap H locs) : W p l e room_1 s m #[Value.ref b] below meth c H locs (400 + (gn0 - g0)) (100000 + 14 * (gn0 - g0)) Q (F0 m 975 ls []) := by
  obtain ⟨K, ln, Ls, gn, hW, ok1, hga, hge, km, kx, pdNS, hw⟩ : ∃ (K ln : Nat → Nat) (Ls : List Nat) (gn : Nat), SW K ln Ls ∧ Ok K hp0 ∧ g0 ≤ gn ∧ gn = gn0 ∧ K qa900 = 13 ∧ K qa901 = 12 ∧ NSx K ln hp0 gn ∧ PW G cy K ln Ls A hp0 H := ⟨K0, ln0, Ls0, gn0, hW0, ok0, hga0, rfl, km, kx, pdNS, hw⟩
  have hgn := NSx.bd pdNS
  refine W.widen (k := 400 + (gn - g0)) (n := 100000 + 14 * (gn - g0)) (by omega) (by omega) ?_
  refine lv_aload_n hx hb dL_law_975 rfl (lv_at hl 1 rfl) ?_
  refine lv_aload_n hx hb dL_law_976 rfl (lv_at hl 0 rfl) ?_
  refine lv_iload_n hx hb dL_law_977 rfl (lv_at hl 3 rfl) ?_
  refine lv_iconst (v := 1) hx hb dL_law_978 (by decide) ?_
  refine lv_iadd hx hb dL_law_979 (lv_topi (fun zi1 ea2 => ?_))
  have bd3 : (1 : Int) ≤ zi1.toInt ∧ zi1.toInt ≤ 3067 := b_iadd ea2 hz3 bc_1 (by decide) (by decide) (by decide) (by decide)
  have qe4 : zi1.toInt = (zi3 : Int32).toInt + (1 : Int32).toInt := e_iadd ea2 hz3 bc_1 (by decide) (by decide)
  have qe5 : zi1.toInt = zi3.toInt + 1 := by have ha : (1 : Int32).toInt = 1 := (by decide); rw [ha] at qe4; exact qe4
  refine va_sld hx hb hX hbl hbA hS (vp_bv (by omega) (by omega)) dL_law_980 (lv_topi (fun zi6 ez7 => ?_))
  refine kq_i hw hS hA (va_runV (As := [.int zi6]) (rest := []) ⟨hx, hb, hml, hown, hT⟩ (cX11_hold_vH_0 l G cy ev K ln Ls hW _ hp0 ok1 qa901 zi6 kx) (cwV 1 hT (good_V tb_1343 tb_1340 tb_1341 tb_1342 tb_105) rfl rfl rfl (by decide +kernel) ⟨Nat.le_of_ble_eq_true rfl, Nat.le_of_ble_eq_true rfl⟩) (pool_preV (ci := 11) hK hE hS hA hw hW kx (by decide) rfl) rfl rfl hl.1 rfl (lv_room (Nat.le_of_ble_eq_true rfl)) dL_law_981 ⟨(show (400 + (gn - g0)) + 0 ≤ 600000 from by omega), (show (100000 + 14 * (gn - g0)) + 0 ≤ 7302250 from by omega)⟩) (fun zi12 hp8 H locs hq11 hw hS => ?_)
  obtain ⟨ok9, F10, bd13, xq14, hc15⟩ := hq11
  have hw : PW G cy K ln Ls A hp8 H := hw
  refine lv_aload_n hx hb dL_law_984 rfl (lv_at hl 2 rfl) ?_
  refine lv_aload_n hx hb dL_law_985 rfl (lv_at hl 0 rfl) ?_
  refine lv_iload_n hx hb dL_law_986 rfl (lv_at hl 3 rfl) ?_
  refine lv_iconst (v := 1) hx hb dL_law_987 (by decide) ?_
  refine lv_iadd hx hb dL_law_988 (lv_topi (fun zi16 ea17 => ?_))
  have bd18 : (1 : Int) ≤ zi16.toInt ∧ zi16.toInt ≤ 3067 := b_iadd ea17 hz3 bc_1 (by decide) (by decide) (by decide) (by decide)
  have qe19 : zi16.toInt = (zi3 : Int32).toInt + (1 : Int32).toInt := e_iadd ea17 hz3 bc_1 (by decide) (by decide)
  have qe20 : zi16.toInt = zi3.toInt + 1 := by have ha : (1 : Int32).toInt = 1 := (by decide); rw [ha] at qe19; exact qe19
  refine va_sld hx hb hX hbl hbA hS (vp_bv (by omega) (by omega)) dL_law_989 (lv_topi (fun zi21 ez22 => ?_))
  refine kq_i hw hS hA (va_runV (As := [.int zi21]) (rest := [.int zi12]) ⟨hx, hb, hml, hown, hT⟩ (cX12_hold_vH_0 l G cy ev K ln Ls hW _ hp8 ok9 qa900 zi21 km) (cwV 1 hT (good_V tb_1953 tb_1950 tb_1951 tb_1952 tb_122) rfl rfl rfl (by decide +kernel) ⟨Nat.le_of_ble_eq_true rfl, Nat.le_of_ble_eq_true rfl⟩) (pool_preV (ci := 12) hK hE hS hA hw hW km (by decide) rfl) rfl rfl hl.1 rfl (lv_room (Nat.le_of_ble_eq_true rfl)) dL_law_990 ⟨(show (400 + (gn - g0)) + 0 ≤ 600000 from by omega), (show (100000 + 14 * (gn - g0)) + 0 ≤ 7302250 from by omega)⟩) (fun zi27 hp23 H locs hq26 hw hS => ?_)
  obtain ⟨ok24, F25, bd28, xq29, hc30⟩ := hq26
  have hw : PW G cy K ln Ls A hp23 H := hw
  refine lv_icmp_eq (tgt := 1044) hx hb dL_law_993 (by decide) (fun cn31 => ?_) (fun cn31 => ?_)
  · skip
    have tf32 : zi12.toInt = zi27.toInt := congrArg Int32.toInt cn31
    have pd33 : NSx K ln hp23 gn := NSx_fr ok1  (show Fr [8000, 8001, 8002, 8003, 8004, 8005, 9001, 40000, 41000, 42000, 43000, 59000, 101000, 102000] K hp0 hp23 from (Fr.tr (Fr.tr (Fr.rf) F10 (by decide)) F25 (by decide))) (by decide) pdNS
    have pd34 : LW hp23 qa900 := LW_fr ok1 km (show Fr [8000, 8001, 8002, 8003, 8004, 8005, 9001, 40000, 41000, 42000, 43000, 59000, 101000, 102000] K hp0 hp23 from (Fr.tr (Fr.tr (Fr.rf) F10 (by decide)) F25 (by decide))) (by decide) pdLW
    exact kk K ln Ls gn hp23 _ _ ls hW ok24 pd33 (by omega) pd34 km kx (lv_sub hl [0, 1, 2, 3] rfl) hw hS
  · skip
    have tf35 : (zi12 : Int32).toInt ≠ (zi27 : Int32).toInt := fun e => cn31 (Int32.toInt_inj.mp e)
    have he36 : zi16 = zi1 := Int32.toInt_inj.mp (by omega)
    have he37 : zi21 = zi6 := by rw [ez22, ez7, he36]
    have := congrArg Int32.toInt he37
    exact False.elim (by omega)

set_option maxRecDepth 100000 in
set_option maxHeartbeats 8000000 in
theorem law_c_30 {p : Program} {e : Env} {s : State} {m : MethodId} {below : List Frame} {meth : Method} {c : Code} (l : Launch) {b L : Nat} {xs : Nat → Int32} (hL : L ≤ 3072) (hx : p.tables.exec = Jvm.exec) (hb : c.code = code) (hml : c.maxLocals = 4) (hown : s.vm.findClass "LieClockLaw" = some m.cls) (hT : ∀ w ∈ TB, w.before #[Value.ref b] s = true) (hX : va_X b L xs s s.heap) (hbl : b < s.heap.size) (G : va_G) (cy : Nat → ClassId) (ev : Ew) (hK : KK G cy s) (A : Nat → Prop) (hA : ∀ q : Nat, s.heap.size ≤ q → A q) (hbA : ¬ A b) (hE : EW ev A s s.heap) (K0 ln0 : Nat → Nat) (Ls0 : List Nat) (hW0 : SW K0 ln0 Ls0) (hp0 : Nat → Nat → Value) (ok0 : Ok K0 hp0) (qa900 qa901 : Nat) (km : K0 qa900 = 13) (kx : K0 qa901 = 12) (g0 gn0 : Nat) (hg0 : 256 ≤ g0 ∧ g0 ≤ 131072) (hga0 : g0 ≤ gn0) (pdNS : NSx K0 ln0 hp0 gn0) (pdLW : LW hp0 qa900) (zi3 : Int32) (hz3 : (0 : Int) ≤ zi3.toInt ∧ zi3.toInt ≤ 3066) (hz6 : zi3.toInt + 6 ≤ (L : Nat)) {Q : State → Prop} (kk : ∀ (K ln : Nat → Nat) (Ls : List Nat) (gn : Nat) (hp : Nat → Nat → Value) (H : Heap) (locs : List Loc) (ls : Array Slot), SW K ln Ls → Ok K hp → NSx K ln hp gn → g0 ≤ gn → LW hp qa900 → K qa900 = 13 → K qa901 = 12 → lv_has ls 4 [(0, .ref b), (1, .ref qa901), (2, .ref qa900), (3, .int zi3)] → PW G cy K ln Ls A hp H → va_S A s.heap H locs → W p l e room_1 s m #[Value.ref b] below meth c H locs (400 + (gn - g0)) (100000 + 14 * (gn - g0)) Q (F0 m 1044 ls [])) (H : Heap) (locs : List Loc) (ls : Array Slot) (hl : lv_has ls 4 [(0, .ref b), (1, .ref qa901), (2, .ref qa900), (3, .int zi3)]) (hw : PW G cy K0 ln0 Ls0 A hp0 H) (hS : va_S A s.heap H locs) : W p l e room_1 s m #[Value.ref b] below meth c H locs (400 + (gn0 - g0)) (100000 + 14 * (gn0 - g0)) Q (F0 m 998 ls []) := by
  obtain ⟨K, ln, Ls, gn, hW, ok1, hga, hge, km, kx, pdNS, hw⟩ : ∃ (K ln : Nat → Nat) (Ls : List Nat) (gn : Nat), SW K ln Ls ∧ Ok K hp0 ∧ g0 ≤ gn ∧ gn = gn0 ∧ K qa900 = 13 ∧ K qa901 = 12 ∧ NSx K ln hp0 gn ∧ PW G cy K ln Ls A hp0 H := ⟨K0, ln0, Ls0, gn0, hW0, ok0, hga0, rfl, km, kx, pdNS, hw⟩
  have hgn := NSx.bd pdNS
  refine W.widen (k := 400 + (gn - g0)) (n := 100000 + 14 * (gn - g0)) (by omega) (by omega) ?_
  refine lv_aload_n hx hb dL_law_998 rfl (lv_at hl 1 rfl) ?_
  refine lv_aload_n hx hb dL_law_999 rfl (lv_at hl 0 rfl) ?_
  refine lv_iload_n hx hb dL_law_1000 rfl (lv_at hl 3 rfl) ?_
  refine lv_iconst (v := 1) hx hb dL_law_1001 (by decide) ?_
  refine lv_iadd hx hb dL_law_1002 (lv_topi (fun zi1 ea2 => ?_))
  have bd3 : (1 : Int) ≤ zi1.toInt ∧ zi1.toInt ≤ 3067 := b_iadd ea2 hz3 bc_1 (by decide) (by decide) (by decide) (by decide)
  have qe4 : zi1.toInt = (zi3 : Int32).toInt + (1 : Int32).toInt := e_iadd ea2 hz3 bc_1 (by decide) (by decide)
  have qe5 : zi1.toInt = zi3.toInt + 1 := by have ha : (1 : Int32).toInt = 1 := (by decide); rw [ha] at qe4; exact qe4
  refine va_sld hx hb hX hbl hbA hS (vp_bv (by omega) (by omega)) dL_law_1003 (lv_topi (fun zi6 ez7 => ?_))
  refine kq_i hw hS hA (va_runV (As := [.int zi6]) (rest := []) ⟨hx, hb, hml, hown, hT⟩ (cX11_restore_0 l G cy ev K ln Ls hW _ hp0 ok1 qa901 zi6 kx) (cwV 1 hT (good_V tb_1352 tb_1349 tb_1350 tb_1351 tb_105) rfl rfl rfl (by decide +kernel) ⟨Nat.le_of_ble_eq_true rfl, Nat.le_of_ble_eq_true rfl⟩) (pool_preV (ci := 11) hK hE hS hA hw hW kx (by decide) rfl) rfl rfl hl.1 rfl (lv_room (Nat.le_of_ble_eq_true rfl)) dL_law_1004 ⟨(show (400 + (gn - g0)) + 0 ≤ 600000 from by omega), (show (100000 + 14 * (gn - g0)) + 0 ≤ 7302250 from by omega)⟩) (fun zi12 hp8 H locs hq11 hw hS => ?_)
  obtain ⟨ok9, F10, bd13, hc14⟩ := hq11
  have hw : PW G cy K ln Ls A hp8 H := hw
  refine lv_pop hx hb dL_law_1007 rfl ?_
  refine lv_aload_n hx hb dL_law_1008 rfl (lv_at hl 2 rfl) ?_
  refine lv_aload_n hx hb dL_law_1009 rfl (lv_at hl 0 rfl) ?_
  refine lv_iload_n hx hb dL_law_1010 rfl (lv_at hl 3 rfl) ?_
  refine lv_iconst (v := 1) hx hb dL_law_1011 (by decide) ?_
  refine lv_iadd hx hb dL_law_1012 (lv_topi (fun zi15 ea16 => ?_))
  have bd17 : (1 : Int) ≤ zi15.toInt ∧ zi15.toInt ≤ 3067 := b_iadd ea16 hz3 bc_1 (by decide) (by decide) (by decide) (by decide)
  have qe18 : zi15.toInt = (zi3 : Int32).toInt + (1 : Int32).toInt := e_iadd ea16 hz3 bc_1 (by decide) (by decide)
  have qe19 : zi15.toInt = zi3.toInt + 1 := by have ha : (1 : Int32).toInt = 1 := (by decide); rw [ha] at qe18; exact qe18
  refine va_sld hx hb hX hbl hbA hS (vp_bv (by omega) (by omega)) dL_law_1013 (lv_topi (fun zi20 ez21 => ?_))
  refine kq_i hw hS hA (va_runV (As := [.int zi20]) (rest := []) ⟨hx, hb, hml, hown, hT⟩ (cX12_restore_0 l G cy ev K ln Ls hW _ hp8 ok9 qa900 zi20 km) (cwV 1 hT (good_V tb_1957 tb_1954 tb_1955 tb_1956 tb_122) rfl rfl rfl (by decide +kernel) ⟨Nat.le_of_ble_eq_true rfl, Nat.le_of_ble_eq_true rfl⟩) (pool_preV (ci := 12) hK hE hS hA hw hW km (by decide) rfl) rfl rfl hl.1 rfl (lv_room (Nat.le_of_ble_eq_true rfl)) dL_law_1014 ⟨(show (400 + (gn - g0)) + 0 ≤ 600000 from by omega), (show (100000 + 14 * (gn - g0)) + 0 ≤ 7302250 from by omega)⟩) (fun zi26 hp22 H locs hq25 hw hS => ?_)
  obtain ⟨ok23, F24, bd27, hc28, hc29⟩ := hq25
  have hw : PW G cy K ln Ls A hp22 H := hw
  refine lv_pop hx hb dL_law_1017 rfl ?_
  refine lv_goto (tgt := 1044) hx hb dL_law_1018 (by decide) ?_
  have pd30 : NSx K ln hp22 gn := NSx_fr ok1  (show Fr [1005, 5005, 8000, 8001, 8002, 8003, 8004, 8005, 9001, 12008, 13053, 40000, 41000, 42000, 43000, 92000] K hp0 hp22 from (Fr.tr (Fr.tr (Fr.rf) F10 (by decide)) F24 (by decide))) (by decide) pdNS
  have pd31 : LW hp22 qa900 := LW_fr ok1 km (show Fr [1005, 5005, 8000, 8001, 8002, 8003, 8004, 8005, 9001, 12008, 13053, 40000, 41000, 42000, 43000, 92000] K hp0 hp22 from (Fr.tr (Fr.tr (Fr.rf) F10 (by decide)) F24 (by decide))) (by decide) pdLW
  exact kk K ln Ls gn hp22 _ _ ls hW ok23 pd30 (by omega) pd31 km kx (lv_sub hl [0, 1, 2, 3] rfl) hw hS

set_option maxRecDepth 100000 in
set_option maxHeartbeats 8000000 in
theorem law_c_31 {p : Program} {e : Env} {s : State} {m : MethodId} {below : List Frame} {meth : Method} {c : Code} (l : Launch) {b L : Nat} {xs : Nat → Int32} (hL : L ≤ 3072) (hx : p.tables.exec = Jvm.exec) (hb : c.code = code) (hml : c.maxLocals = 4) (hown : s.vm.findClass "LieClockLaw" = some m.cls) (hT : ∀ w ∈ TB, w.before #[Value.ref b] s = true) (hX : va_X b L xs s s.heap) (hbl : b < s.heap.size) (G : va_G) (cy : Nat → ClassId) (ev : Ew) (hK : KK G cy s) (A : Nat → Prop) (hA : ∀ q : Nat, s.heap.size ≤ q → A q) (hbA : ¬ A b) (hE : EW ev A s s.heap) (K0 ln0 : Nat → Nat) (Ls0 : List Nat) (hW0 : SW K0 ln0 Ls0) (hp0 : Nat → Nat → Value) (ok0 : Ok K0 hp0) (qa900 qa901 : Nat) (km : K0 qa900 = 13) (kx : K0 qa901 = 12) (g0 gn0 : Nat) (hg0 : 256 ≤ g0 ∧ g0 ≤ 131072) (hga0 : g0 ≤ gn0) (pdNS : NSx K0 ln0 hp0 gn0) (pdLW : LW hp0 qa900) (zi3 : Int32) (hz3 : (0 : Int) ≤ zi3.toInt ∧ zi3.toInt ≤ 3066) (hz6 : zi3.toInt + 6 ≤ (L : Nat)) {Q : State → Prop} (kk : ∀ (K ln : Nat → Nat) (Ls : List Nat) (gn : Nat) (hp : Nat → Nat → Value) (H : Heap) (locs : List Loc) (ls : Array Slot), SW K ln Ls → Ok K hp → NSx K ln hp gn → g0 ≤ gn → LW hp qa900 → K qa900 = 13 → K qa901 = 12 → lv_has ls 4 [(0, .ref b), (1, .ref qa901), (2, .ref qa900), (3, .int zi3)] → PW G cy K ln Ls A hp H → va_S A s.heap H locs → W p l e room_1 s m #[Value.ref b] below meth c H locs (400 + (gn - g0)) (100000 + 14 * (gn - g0)) Q (F0 m 1044 ls [])) (H : Heap) (locs : List Loc) (ls : Array Slot) (hl : lv_has ls 4 [(0, .ref b), (1, .ref qa901), (2, .ref qa900), (3, .int zi3)]) (hw : PW G cy K0 ln0 Ls0 A hp0 H) (hS : va_S A s.heap H locs) : W p l e room_1 s m #[Value.ref b] below meth c H locs (400 + (gn0 - g0)) (100000 + 14 * (gn0 - g0)) Q (F0 m 1021 ls []) := by
  obtain ⟨K, ln, Ls, gn, hW, ok1, hga, hge, km, kx, pdNS, hw⟩ : ∃ (K ln : Nat → Nat) (Ls : List Nat) (gn : Nat), SW K ln Ls ∧ Ok K hp0 ∧ g0 ≤ gn ∧ gn = gn0 ∧ K qa900 = 13 ∧ K qa901 = 12 ∧ NSx K ln hp0 gn ∧ PW G cy K ln Ls A hp0 H := ⟨K0, ln0, Ls0, gn0, hW0, ok0, hga0, rfl, km, kx, pdNS, hw⟩
  have hgn := NSx.bd pdNS
  refine W.widen (k := 400 + (gn - g0)) (n := 100000 + 14 * (gn - g0)) (by omega) (by omega) ?_
  refine lv_aload_n hx hb dL_law_1021 rfl (lv_at hl 1 rfl) ?_
  refine lv_aload_n hx hb dL_law_1022 rfl (lv_at hl 0 rfl) ?_
  refine lv_iload_n hx hb dL_law_1023 rfl (lv_at hl 3 rfl) ?_
  refine lv_iconst (v := 1) hx hb dL_law_1024 (by decide) ?_
  refine lv_iadd hx hb dL_law_1025 (lv_topi (fun zi1 ea2 => ?_))
  have bd3 : (1 : Int) ≤ zi1.toInt ∧ zi1.toInt ≤ 3067 := b_iadd ea2 hz3 bc_1 (by decide) (by decide) (by decide) (by decide)
  have qe4 : zi1.toInt = (zi3 : Int32).toInt + (1 : Int32).toInt := e_iadd ea2 hz3 bc_1 (by decide) (by decide)
  have qe5 : zi1.toInt = zi3.toInt + 1 := by have ha : (1 : Int32).toInt = 1 := (by decide); rw [ha] at qe4; exact qe4
  refine va_sld hx hb hX hbl hbA hS (vp_bv (by omega) (by omega)) dL_law_1026 (lv_topi (fun zi6 ez7 => ?_))
  refine kq_i hw hS hA (va_runV (As := [.int zi6]) (rest := []) ⟨hx, hb, hml, hown, hT⟩ (cX11_count_0 l G cy ev K ln Ls hW _ hp0 ok1 qa901 zi6 kx) (cwV 1 hT (good_V tb_1356 tb_1353 tb_1354 tb_1355 tb_105) rfl rfl rfl (by decide +kernel) ⟨Nat.le_of_ble_eq_true rfl, Nat.le_of_ble_eq_true rfl⟩) (pool_preV (ci := 11) hK hE hS hA hw hW kx (by decide) rfl) rfl rfl hl.1 rfl (lv_room (Nat.le_of_ble_eq_true rfl)) dL_law_1027 ⟨(show (400 + (gn - g0)) + 0 ≤ 600000 from by omega), (show (100000 + 14 * (gn - g0)) + 0 ≤ 7302250 from by omega)⟩) (fun zi12 hp8 H locs hq11 hw hS => ?_)
  obtain ⟨ok9, F10⟩ := hq11
  obtain rfl : hp0 = hp8 := (Fr.nil F10).symm
  have hw : PW G cy K ln Ls A hp0 H := hw
  refine lv_pop hx hb dL_law_1030 rfl ?_
  refine lv_aload_n hx hb dL_law_1031 rfl (lv_at hl 2 rfl) ?_
  refine lv_aload_n hx hb dL_law_1032 rfl (lv_at hl 0 rfl) ?_
  refine lv_iload_n hx hb dL_law_1033 rfl (lv_at hl 3 rfl) ?_
  refine lv_iconst (v := 1) hx hb dL_law_1034 (by decide) ?_
  refine lv_iadd hx hb dL_law_1035 (lv_topi (fun zi13 ea14 => ?_))
  have bd15 : (1 : Int) ≤ zi13.toInt ∧ zi13.toInt ≤ 3067 := b_iadd ea14 hz3 bc_1 (by decide) (by decide) (by decide) (by decide)
  have qe16 : zi13.toInt = (zi3 : Int32).toInt + (1 : Int32).toInt := e_iadd ea14 hz3 bc_1 (by decide) (by decide)
  have qe17 : zi13.toInt = zi3.toInt + 1 := by have ha : (1 : Int32).toInt = 1 := (by decide); rw [ha] at qe16; exact qe16
  refine va_sld hx hb hX hbl hbA hS (vp_bv (by omega) (by omega)) dL_law_1036 (lv_topi (fun zi18 ez19 => ?_))
  refine kq_i hw hS hA (va_runV (As := [.int zi18]) (rest := []) ⟨hx, hb, hml, hown, hT⟩ (cX12_count_0 l G cy ev K ln Ls hW _ hp0 ok1 qa900 zi18 km) (cwV 1 hT (good_V tb_1961 tb_1958 tb_1959 tb_1960 tb_122) rfl rfl rfl (by decide +kernel) ⟨Nat.le_of_ble_eq_true rfl, Nat.le_of_ble_eq_true rfl⟩) (pool_preV (ci := 12) hK hE hS hA hw hW km (by decide) rfl) rfl rfl hl.1 rfl (lv_room (Nat.le_of_ble_eq_true rfl)) dL_law_1037 ⟨(show (400 + (gn - g0)) + 0 ≤ 600000 from by omega), (show (100000 + 14 * (gn - g0)) + 0 ≤ 7302250 from by omega)⟩) (fun zi24 hp20 H locs hq23 hw hS => ?_)
  obtain ⟨ok21, F22⟩ := hq23
  have hw : PW G cy K ln Ls A hp20 H := hw
  refine lv_pop hx hb dL_law_1040 rfl ?_
  refine lv_goto (tgt := 1044) hx hb dL_law_1041 (by decide) ?_
  have pd25 : NSx K ln hp20 gn := NSx_fr ok1  (show Fr [93000] K hp0 hp20 from (Fr.tr (Fr.rf) F22 (by decide))) (by decide) pdNS
  have pd26 : LW hp20 qa900 := LW_fr ok1 km (show Fr [93000] K hp0 hp20 from (Fr.tr (Fr.rf) F22 (by decide))) (by decide) pdLW
  exact kk K ln Ls gn hp20 _ _ ls hW ok21 pd25 (by omega) pd26 km kx (lv_sub hl [0, 1, 2, 3] rfl) hw hS
