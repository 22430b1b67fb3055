set_option maxRecDepth 100000 in
set_option maxHeartbeats 8000000 in
theorem law_c_0 {p : Program} {e : Env} {s : State} {m : MethodId} {below : List Frame} {meth : Method} {c : Code} (l : Launch) {b L : Nat} {xs : Nat → Int32} (hL : L ≤ 3072) (hx : p.tables.exec = Jvm.exec) (hb : c.code = code) (hml : c.maxLocals = 4) (hown : s.vm.findClass "LieClockLaw" = some m.cls) (hT : ∀ w ∈ TB, w.before #[Value.ref b] s = true) (hX : va_X b L xs s s.heap) (hbl : b < s.heap.size) (G : va_G) (cy : Nat → ClassId) (ev : Ew) (hK : KK G cy s) (A : Nat → Prop) (hA : ∀ q : Nat, s.heap.size ≤ q → A q) (hbA : ¬ A b) (hE : EW ev A s s.heap) (K0 ln0 : Nat → Nat) (Ls0 : List Nat) (hW0 : SW K0 ln0 Ls0) (hp0 : Nat → Nat → Value) (ok0 : Ok K0 hp0) (qa900 qa901 : Nat) (km : K0 qa900 = 13) (kx : K0 qa901 = 12) (g0 gn0 : Nat) (hg0 : 256 ≤ g0 ∧ g0 ≤ 131072) (hga0 : g0 ≤ gn0) (pdNS : NSx K0 ln0 hp0 gn0) (pdLW : LW hp0 qa900) (zi3 : Int32) (hz3 : (0 : Int) ≤ zi3.toInt ∧ zi3.toInt ≤ 3066) (hz6 : zi3.toInt + 6 ≤ (L : Nat)) {Q : State → Prop} (kk : ∀ (K ln : Nat → Nat) (Ls : List Nat) (gn : Nat) (hp : Nat → Nat → Value) (H : Heap) (locs : List Loc) (ls : Array Slot), SW K ln Ls → Ok K hp → NSx K ln hp gn → g0 ≤ gn → LW hp qa900 → K qa900 = 13 → K qa901 = 12 → lv_has ls 4 [(0, .ref b), (1, .ref qa901), (2, .ref qa900), (3, .int zi3)] → PW G cy K ln Ls A hp H → va_S A s.heap H locs → W p l e room_1 s m #[Value.ref b] below meth c H locs (400 + (gn - g0)) (100000 + 14 * (gn - g0)) Q (F0 m 1044 ls [])) (H : Heap) (locs : List Loc) (ls : Array Slot) (hl : lv_has ls 4 [(0, .ref b), (1, .ref qa901), (2, .ref qa900), (3, .int zi3)]) (hw : PW G cy K0 ln0 Ls0 A hp0 H) (hS : va_S A s.heap H locs) : W p l e room_1 s m #[Value.ref b] below meth c H locs (400 + (gn0 - g0)) (100000 + 14 * (gn0 - g0)) Q (F0 m 176 ls []) := by
  obtain ⟨K, ln, Ls, gn, hW, ok1, hga, hge, km, kx, pdNS, hw⟩ : ∃ (K ln : Nat → Nat) (Ls : List Nat) (gn : Nat), SW K ln Ls ∧ Ok K hp0 ∧ g0 ≤ gn ∧ gn = gn0 ∧ K qa900 = 13 ∧ K qa901 = 12 ∧ NSx K ln hp0 gn ∧ PW G cy K ln Ls A hp0 H := ⟨K0, ln0, Ls0, gn0, hW0, ok0, hga0, rfl, km, kx, pdNS, hw⟩
  have hgn := NSx.bd pdNS
  refine W.widen (k := 400 + (gn - g0)) (n := 100000 + 14 * (gn - g0)) (by omega) (by omega) ?_
  refine lv_aload_n hx hb dL_law_176 rfl (lv_at hl 1 rfl) ?_
  refine lv_aload_n hx hb dL_law_177 rfl (lv_at hl 0 rfl) ?_
  refine lv_iload_n hx hb dL_law_178 rfl (lv_at hl 3 rfl) ?_
  refine lv_iconst (v := 1) hx hb dL_law_179 (by decide) ?_
  refine lv_iadd hx hb dL_law_180 (lv_topi (fun zi1 ea2 => ?_))
  have bd3 : (1 : Int) ≤ zi1.toInt ∧ zi1.toInt ≤ 3067 := b_iadd ea2 hz3 bc_1 (by decide) (by decide) (by decide) (by decide)
  have qe4 : zi1.toInt = (zi3 : Int32).toInt + (1 : Int32).toInt := e_iadd ea2 hz3 bc_1 (by decide) (by decide)
  have qe5 : zi1.toInt = zi3.toInt + 1 := by have ha : (1 : Int32).toInt = 1 := (by decide); rw [ha] at qe4; exact qe4
  refine va_sld hx hb hX hbl hbA hS (vp_bv (by omega) (by omega)) dL_law_181 (lv_topi (fun zi6 ez7 => ?_))
  refine lv_aload_n hx hb dL_law_182 rfl (lv_at hl 0 rfl) ?_
  refine lv_iload_n hx hb dL_law_183 rfl (lv_at hl 3 rfl) ?_
  refine lv_iconst (v := 2) hx hb dL_law_184 (by decide) ?_
  refine lv_iadd hx hb dL_law_185 (lv_topi (fun zi8 ea9 => ?_))
  have bd10 : (2 : Int) ≤ zi8.toInt ∧ zi8.toInt ≤ 3068 := b_iadd ea9 hz3 bc_2 (by decide) (by decide) (by decide) (by decide)
  have qe11 : zi8.toInt = (zi3 : Int32).toInt + (2 : Int32).toInt := e_iadd ea9 hz3 bc_2 (by decide) (by decide)
  have qe12 : zi8.toInt = zi3.toInt + 2 := by have ha : (2 : Int32).toInt = 2 := (by decide); rw [ha] at qe11; exact qe11
  refine va_sld hx hb hX hbl hbA hS (vp_bv (by omega) (by omega)) dL_law_186 (lv_topi (fun zi13 ez14 => ?_))
  refine lv_aload_n hx hb dL_law_187 rfl (lv_at hl 0 rfl) ?_
  refine lv_iload_n hx hb dL_law_188 rfl (lv_at hl 3 rfl) ?_
  refine lv_iconst (v := 3) hx hb dL_law_189 (by decide) ?_
  refine lv_iadd hx hb dL_law_190 (lv_topi (fun zi15 ea16 => ?_))
  have bd17 : (3 : Int) ≤ zi15.toInt ∧ zi15.toInt ≤ 3069 := b_iadd ea16 hz3 bc_3 (by decide) (by decide) (by decide) (by decide)
  have qe18 : zi15.toInt = (zi3 : Int32).toInt + (3 : Int32).toInt := e_iadd ea16 hz3 bc_3 (by decide) (by decide)
  have qe19 : zi15.toInt = zi3.toInt + 3 := by have ha : (3 : Int32).toInt = 3 := (by decide); rw [ha] at qe18; exact qe18
  refine va_sld hx hb hX hbl hbA hS (vp_bv (by omega) (by omega)) dL_law_191 (lv_topi (fun zi20 ez21 => ?_))
  refine lv_aload_n hx hb dL_law_192 rfl (lv_at hl 0 rfl) ?_
  refine lv_iload_n hx hb dL_law_193 rfl (lv_at hl 3 rfl) ?_
  refine lv_iconst (v := 4) hx hb dL_law_194 (by decide) ?_
  refine lv_iadd hx hb dL_law_195 (lv_topi (fun zi22 ea23 => ?_))
  have bd24 : (4 : Int) ≤ zi22.toInt ∧ zi22.toInt ≤ 3070 := b_iadd ea23 hz3 bc_4 (by decide) (by decide) (by decide) (by decide)
  have qe25 : zi22.toInt = (zi3 : Int32).toInt + (4 : Int32).toInt := e_iadd ea23 hz3 bc_4 (by decide) (by decide)
  have qe26 : zi22.toInt = zi3.toInt + 4 := by have ha : (4 : Int32).toInt = 4 := (by decide); rw [ha] at qe25; exact qe25
  refine va_sld hx hb hX hbl hbA hS (vp_bv (by omega) (by omega)) dL_law_196 (lv_topi (fun zi27 ez28 => ?_))
  refine lv_aload_n hx hb dL_law_197 rfl (lv_at hl 0 rfl) ?_
  refine lv_iload_n hx hb dL_law_198 rfl (lv_at hl 3 rfl) ?_
  refine lv_iconst (v := 5) hx hb dL_law_199 (by decide) ?_
  refine lv_iadd hx hb dL_law_200 (lv_topi (fun zi29 ea30 => ?_))
  have bd31 : (5 : Int) ≤ zi29.toInt ∧ zi29.toInt ≤ 3071 := b_iadd ea30 hz3 bc_5 (by decide) (by decide) (by decide) (by decide)
  have qe32 : zi29.toInt = (zi3 : Int32).toInt + (5 : Int32).toInt := e_iadd ea30 hz3 bc_5 (by decide) (by decide)
  have qe33 : zi29.toInt = zi3.toInt + 5 := by have ha : (5 : Int32).toInt = 5 := (by decide); rw [ha] at qe32; exact qe32
  refine va_sld hx hb hX hbl hbA hS (vp_bv (by omega) (by omega)) dL_law_201 (lv_topi (fun zi34 ez35 => ?_))
  refine kq_i hw hS hA (va_runV (As := [.int zi6, .int zi13, .int zi20, .int zi27, .int zi34]) (rest := []) ⟨hx, hb, hml, hown, hT⟩ (cX11_feed_0 l G cy ev K ln Ls hW _ hp0 ok1 qa901 zi6 zi13 zi20 zi27 zi34 kx) (cwV 5 hT (good_V tb_712 tb_709 tb_710 tb_711 tb_105) rfl rfl rfl (by decide +kernel) ⟨Nat.le_of_ble_eq_true rfl, Nat.le_of_ble_eq_true rfl⟩) (pool_preV (ci := 11) hK hE hS hA hw hW kx (by decide) rfl) rfl rfl hl.1 rfl (lv_room (Nat.le_of_ble_eq_true rfl)) dL_law_202 ⟨(show (400 + (gn - g0)) + 0 ≤ 600000 from by omega), (show (100000 + 14 * (gn - g0)) + 0 ≤ 7302250 from by omega)⟩) (fun zi40 hp36 H locs hq39 hw hS => ?_)
  obtain ⟨ok37, F38, bd41⟩ := hq39
  have hw : PW G cy K ln Ls A hp36 H := hw
  refine lv_pop hx hb dL_law_205 rfl ?_
  refine lv_aload_n hx hb dL_law_206 rfl (lv_at hl 2 rfl) ?_
  refine lv_aload_n hx hb dL_law_207 rfl (lv_at hl 0 rfl) ?_
  refine lv_iload_n hx hb dL_law_208 rfl (lv_at hl 3 rfl) ?_
  refine lv_iconst (v := 1) hx hb dL_law_209 (by decide) ?_
  refine lv_iadd hx hb dL_law_210 (lv_topi (fun zi42 ea43 => ?_))
  have bd44 : (1 : Int) ≤ zi42.toInt ∧ zi42.toInt ≤ 3067 := b_iadd ea43 hz3 bc_1 (by decide) (by decide) (by decide) (by decide)
  have qe45 : zi42.toInt = (zi3 : Int32).toInt + (1 : Int32).toInt := e_iadd ea43 hz3 bc_1 (by decide) (by decide)
  have qe46 : zi42.toInt = zi3.toInt + 1 := by have ha : (1 : Int32).toInt = 1 := (by decide); rw [ha] at qe45; exact qe45
  refine va_sld hx hb hX hbl hbA hS (vp_bv (by omega) (by omega)) dL_law_211 (lv_topi (fun zi47 ez48 => ?_))
  refine lv_aload_n hx hb dL_law_212 rfl (lv_at hl 0 rfl) ?_
  refine lv_iload_n hx hb dL_law_213 rfl (lv_at hl 3 rfl) ?_
  refine lv_iconst (v := 2) hx hb dL_law_214 (by decide) ?_
  refine lv_iadd hx hb dL_law_215 (lv_topi (fun zi49 ea50 => ?_))
  have bd51 : (2 : Int) ≤ zi49.toInt ∧ zi49.toInt ≤ 3068 := b_iadd ea50 hz3 bc_2 (by decide) (by decide) (by decide) (by decide)
  have qe52 : zi49.toInt = (zi3 : Int32).toInt + (2 : Int32).toInt := e_iadd ea50 hz3 bc_2 (by decide) (by decide)
  have qe53 : zi49.toInt = zi3.toInt + 2 := by have ha : (2 : Int32).toInt = 2 := (by decide); rw [ha] at qe52; exact qe52
  refine va_sld hx hb hX hbl hbA hS (vp_bv (by omega) (by omega)) dL_law_216 (lv_topi (fun zi54 ez55 => ?_))
  refine lv_aload_n hx hb dL_law_217 rfl (lv_at hl 0 rfl) ?_
  refine lv_iload_n hx hb dL_law_218 rfl (lv_at hl 3 rfl) ?_
  refine lv_iconst (v := 3) hx hb dL_law_219 (by decide) ?_
  refine lv_iadd hx hb dL_law_220 (lv_topi (fun zi56 ea57 => ?_))
  have bd58 : (3 : Int) ≤ zi56.toInt ∧ zi56.toInt ≤ 3069 := b_iadd ea57 hz3 bc_3 (by decide) (by decide) (by decide) (by decide)
  have qe59 : zi56.toInt = (zi3 : Int32).toInt + (3 : Int32).toInt := e_iadd ea57 hz3 bc_3 (by decide) (by decide)
  have qe60 : zi56.toInt = zi3.toInt + 3 := by have ha : (3 : Int32).toInt = 3 := (by decide); rw [ha] at qe59; exact qe59
  refine va_sld hx hb hX hbl hbA hS (vp_bv (by omega) (by omega)) dL_law_221 (lv_topi (fun zi61 ez62 => ?_))
  refine lv_aload_n hx hb dL_law_222 rfl (lv_at hl 0 rfl) ?_
  refine lv_iload_n hx hb dL_law_223 rfl (lv_at hl 3 rfl) ?_
  refine lv_iconst (v := 4) hx hb dL_law_224 (by decide) ?_
  refine lv_iadd hx hb dL_law_225 (lv_topi (fun zi63 ea64 => ?_))
  have bd65 : (4 : Int) ≤ zi63.toInt ∧ zi63.toInt ≤ 3070 := b_iadd ea64 hz3 bc_4 (by decide) (by decide) (by decide) (by decide)
  have qe66 : zi63.toInt = (zi3 : Int32).toInt + (4 : Int32).toInt := e_iadd ea64 hz3 bc_4 (by decide) (by decide)
  have qe67 : zi63.toInt = zi3.toInt + 4 := by have ha : (4 : Int32).toInt = 4 := (by decide); rw [ha] at qe66; exact qe66
  refine va_sld hx hb hX hbl hbA hS (vp_bv (by omega) (by omega)) dL_law_226 (lv_topi (fun zi68 ez69 => ?_))
  refine lv_aload_n hx hb dL_law_227 rfl (lv_at hl 0 rfl) ?_
  refine lv_iload_n hx hb dL_law_228 rfl (lv_at hl 3 rfl) ?_
  refine lv_iconst (v := 5) hx hb dL_law_229 (by decide) ?_
  refine lv_iadd hx hb dL_law_230 (lv_topi (fun zi70 ea71 => ?_))
  have bd72 : (5 : Int) ≤ zi70.toInt ∧ zi70.toInt ≤ 3071 := b_iadd ea71 hz3 bc_5 (by decide) (by decide) (by decide) (by decide)
  have qe73 : zi70.toInt = (zi3 : Int32).toInt + (5 : Int32).toInt := e_iadd ea71 hz3 bc_5 (by decide) (by decide)
  have qe74 : zi70.toInt = zi3.toInt + 5 := by have ha : (5 : Int32).toInt = 5 := (by decide); rw [ha] at qe73; exact qe73
  refine va_sld hx hb hX hbl hbA hS (vp_bv (by omega) (by omega)) dL_law_231 (lv_topi (fun zi75 ez76 => ?_))
  refine kq_i hw hS hA (va_runV (As := [.int zi47, .int zi54, .int zi61, .int zi68, .int zi75]) (rest := []) ⟨hx, hb, hml, hown, hT⟩ (cX12_feed_0 l G cy ev K ln Ls hW _ hp36 ok37 qa900 zi47 zi54 zi61 zi68 zi75 km) (cwV 5 hT (good_V tb_1585 tb_1582 tb_1583 tb_1584 tb_122) rfl rfl rfl (by decide +kernel) ⟨Nat.le_of_ble_eq_true rfl, Nat.le_of_ble_eq_true rfl⟩) (pool_preV (ci := 12) hK hE hS hA hw hW km (by decide) rfl) rfl rfl hl.1 rfl (lv_room (Nat.le_of_ble_eq_true rfl)) dL_law_232 ⟨(show (400 + (gn - g0)) + 0 ≤ 600000 from by omega), (show (100000 + 14 * (gn - g0)) + 0 ≤ 7302250 from by omega)⟩) (fun zi81 hp77 H locs hq80 hw hS => ?_)
  obtain ⟨ok78, F79, bd82, ⟨zi83, eq84, bd85⟩⟩ := hq80
  have hw : PW G cy K ln Ls A hp77 H := hw
  refine lv_pop hx hb dL_law_235 rfl ?_
  refine lv_goto (tgt := 1044) hx hb dL_law_236 (by decide) ?_
  have pd86 : NSx K ln hp77 gn := NSx_fr ok1  (show Fr [9001, 13002, 43000, 60000] K hp0 hp77 from (Fr.tr (Fr.tr (Fr.rf) F38 (by decide)) F79 (by decide))) (by decide) pdNS
  have pd87 : LW hp77 qa900 := LW_fr ok1 km (show Fr [9001, 13002, 43000, 60000] K hp0 hp77 from (Fr.tr (Fr.tr (Fr.rf) F38 (by decide)) F79 (by decide))) (by decide) pdLW
  exact kk K ln Ls gn hp77 _ _ ls hW ok78 pd86 (by omega) pd87 km kx (lv_sub hl [0, 1, 2, 3] rfl) hw hS

set_option maxRecDepth 100000 in
set_option maxHeartbeats 8000000 in
theorem law_c_1 {p : Program} {e : Env} {s : State} {m : MethodId} {below : List Frame} {meth : Method} {c : Code} (l : Launch) {b L : Nat} {xs : Nat → Int32} (hL : L ≤ 3072) (hx : p.tables.exec = Jvm.exec) (hb : c.code = code) (hml : c.maxLocals = 4) (hown : s.vm.findClass "LieClockLaw" = some m.cls) (hT : ∀ w ∈ TB, w.before #[Value.ref b] s = true) (hX : va_X b L xs s s.heap) (hbl : b < s.heap.size) (G : va_G) (cy : Nat → ClassId) (ev : Ew) (hK : KK G cy s) (A : Nat → Prop) (hA : ∀ q : Nat, s.heap.size ≤ q → A q) (hbA : ¬ A b) (hE : EW ev A s s.heap) (K0 ln0 : Nat → Nat) (Ls0 : List Nat) (hW0 : SW K0 ln0 Ls0) (hp0 : Nat → Nat → Value) (ok0 : Ok K0 hp0) (qa900 qa901 : Nat) (km : K0 qa900 = 13) (kx : K0 qa901 = 12) (g0 gn0 : Nat) (hg0 : 256 ≤ g0 ∧ g0 ≤ 131072) (hga0 : g0 ≤ gn0) (pdNS : NSx K0 ln0 hp0 gn0) (pdLW : LW hp0 qa900) (zi3 : Int32) (hz3 : (0 : Int) ≤ zi3.toInt ∧ zi3.toInt ≤ 3066) (hz6 : zi3.toInt + 6 ≤ (L : Nat)) {Q : State → Prop} (kk : ∀ (K ln : Nat → Nat) (Ls : List Nat) (gn : Nat) (hp : Nat → Nat → Value) (H : Heap) (locs : List Loc) (ls : Array Slot), SW K ln Ls → Ok K hp → NSx K ln hp gn → g0 ≤ gn → LW hp qa900 → K qa900 = 13 → K qa901 = 12 → lv_has ls 4 [(0, .ref b), (1, .ref qa901), (2, .ref qa900), (3, .int zi3)] → PW G cy K ln Ls A hp H → va_S A s.heap H locs → W p l e room_1 s m #[Value.ref b] below meth c H locs (400 + (gn - g0)) (100000 + 14 * (gn - g0)) Q (F0 m 1044 ls [])) (H : Heap) (locs : List Loc) (ls : Array Slot) (hl : lv_has ls 4 [(0, .ref b), (1, .ref qa901), (2, .ref qa900), (3, .int zi3)]) (hw : PW G cy K0 ln0 Ls0 A hp0 H) (hS : va_S A s.heap H locs) : W p l e room_1 s m #[Value.ref b] below meth c H locs (400 + (gn0 - g0)) (100000 + 14 * (gn0 - g0)) Q (F0 m 239 ls []) := by
  obtain ⟨K, ln, Ls, gn, hW, ok1, hga, hge, km, kx, pdNS, hw⟩ : ∃ (K ln : Nat → Nat) (Ls : List Nat) (gn : Nat), SW K ln Ls ∧ Ok K hp0 ∧ g0 ≤ gn ∧ gn = gn0 ∧ K qa900 = 13 ∧ K qa901 = 12 ∧ NSx K ln hp0 gn ∧ PW G cy K ln Ls A hp0 H := ⟨K0, ln0, Ls0, gn0, hW0, ok0, hga0, rfl, km, kx, pdNS, hw⟩
  have hgn := NSx.bd pdNS
  refine W.widen (k := 400 + (gn - g0)) (n := 100000 + 14 * (gn - g0)) (by omega) (by omega) ?_
  refine lv_aload_n hx hb dL_law_239 rfl (lv_at hl 1 rfl) ?_
  refine lv_aload_n hx hb dL_law_240 rfl (lv_at hl 0 rfl) ?_
  refine lv_iload_n hx hb dL_law_241 rfl (lv_at hl 3 rfl) ?_
  refine lv_iconst (v := 1) hx hb dL_law_242 (by decide) ?_
  refine lv_iadd hx hb dL_law_243 (lv_topi (fun zi1 ea2 => ?_))
  have bd3 : (1 : Int) ≤ zi1.toInt ∧ zi1.toInt ≤ 3067 := b_iadd ea2 hz3 bc_1 (by decide) (by decide) (by decide) (by decide)
  have qe4 : zi1.toInt = (zi3 : Int32).toInt + (1 : Int32).toInt := e_iadd ea2 hz3 bc_1 (by decide) (by decide)
  have qe5 : zi1.toInt = zi3.toInt + 1 := by have ha : (1 : Int32).toInt = 1 := (by decide); rw [ha] at qe4; exact qe4
  refine va_sld hx hb hX hbl hbA hS (vp_bv (by omega) (by omega)) dL_law_244 (lv_topi (fun zi6 ez7 => ?_))
  refine kq_i hw hS hA (va_runV (As := [.int zi6]) (rest := []) ⟨hx, hb, hml, hown, hT⟩ (cX11_back_0 l G cy ev K ln Ls hW _ hp0 ok1 qa901 zi6 kx) (cwV 1 hT (good_V tb_720 tb_717 tb_718 tb_719 tb_105) rfl rfl rfl (by decide +kernel) ⟨Nat.le_of_ble_eq_true rfl, Nat.le_of_ble_eq_true rfl⟩) (pool_preV (ci := 11) hK hE hS hA hw hW kx (by decide) rfl) rfl rfl hl.1 rfl (lv_room (Nat.le_of_ble_eq_true rfl)) dL_law_245 ⟨(show (400 + (gn - g0)) + 0 ≤ 600000 from by omega), (show (100000 + 14 * (gn - g0)) + 0 ≤ 7302250 from by omega)⟩) (fun zi12 hp8 H locs hq11 hw hS => ?_)
  obtain ⟨ok9, F10, bd13⟩ := hq11
  have hw : PW G cy K ln Ls A hp8 H := hw
  refine lv_pop hx hb dL_law_248 rfl ?_
  refine lv_aload_n hx hb dL_law_249 rfl (lv_at hl 2 rfl) ?_
  refine lv_aload_n hx hb dL_law_250 rfl (lv_at hl 0 rfl) ?_
  refine lv_iload_n hx hb dL_law_251 rfl (lv_at hl 3 rfl) ?_
  refine lv_iconst (v := 1) hx hb dL_law_252 (by decide) ?_
  refine lv_iadd hx hb dL_law_253 (lv_topi (fun zi14 ea15 => ?_))
  have bd16 : (1 : Int) ≤ zi14.toInt ∧ zi14.toInt ≤ 3067 := b_iadd ea15 hz3 bc_1 (by decide) (by decide) (by decide) (by decide)
  have qe17 : zi14.toInt = (zi3 : Int32).toInt + (1 : Int32).toInt := e_iadd ea15 hz3 bc_1 (by decide) (by decide)
  have qe18 : zi14.toInt = zi3.toInt + 1 := by have ha : (1 : Int32).toInt = 1 := (by decide); rw [ha] at qe17; exact qe17
  refine va_sld hx hb hX hbl hbA hS (vp_bv (by omega) (by omega)) dL_law_254 (lv_topi (fun zi19 ez20 => ?_))
  refine kq_i hw hS hA (va_runV (As := [.int zi19]) (rest := []) ⟨hx, hb, hml, hown, hT⟩ (cX12_back_0 l G cy ev K ln Ls hW _ hp8 ok9 qa900 zi19 km) (cwV 1 hT (good_V tb_1593 tb_1590 tb_1591 tb_1592 tb_122) rfl rfl rfl (by decide +kernel) ⟨Nat.le_of_ble_eq_true rfl, Nat.le_of_ble_eq_true rfl⟩) (pool_preV (ci := 12) hK hE hS hA hw hW km (by decide) rfl) rfl rfl hl.1 rfl (lv_room (Nat.le_of_ble_eq_true rfl)) dL_law_255 ⟨(show (400 + (gn - g0)) + 0 ≤ 600000 from by omega), (show (100000 + 14 * (gn - g0)) + 0 ≤ 7302250 from by omega)⟩) (fun zi25 hp21 H locs hq24 hw hS => ?_)
  obtain ⟨ok22, F23, bd26⟩ := hq24
  have hw : PW G cy K ln Ls A hp21 H := hw
  refine lv_pop hx hb dL_law_258 rfl ?_
  refine lv_goto (tgt := 1044) hx hb dL_law_259 (by decide) ?_
  have pd27 : NSx K ln hp21 gn := NSx_fr ok1  (show Fr [9001, 13002] K hp0 hp21 from (Fr.tr (Fr.tr (Fr.rf) F10 (by decide)) F23 (by decide))) (by decide) pdNS
  have pd28 : LW hp21 qa900 := LW_fr ok1 km (show Fr [9001, 13002] K hp0 hp21 from (Fr.tr (Fr.tr (Fr.rf) F10 (by decide)) F23 (by decide))) (by decide) pdLW
  exact kk K ln Ls gn hp21 _ _ ls hW ok22 pd27 (by omega) pd28 km kx (lv_sub hl [0, 1, 2, 3] rfl) hw hS

set_option maxRecDepth 100000 in
set_option maxHeartbeats 8000000 in
theorem law_c_2 {p : Program} {e : Env} {s : State} {m : MethodId} {below : List Frame} {meth : Method} {c : Code} (l : Launch) {b L : Nat} {xs : Nat → Int32} (hL : L ≤ 3072) (hx : p.tables.exec = Jvm.exec) (hb : c.code = code) (hml : c.maxLocals = 4) (hown : s.vm.findClass "LieClockLaw" = some m.cls) (hT : ∀ w ∈ TB, w.before #[Value.ref b] s = true) (hX : va_X b L xs s s.heap) (hbl : b < s.heap.size) (G : va_G) (cy : Nat → ClassId) (ev : Ew) (hK : KK G cy s) (A : Nat → Prop) (hA : ∀ q : Nat, s.heap.size ≤ q → A q) (hbA : ¬ A b) (hE : EW ev A s s.heap) (K0 ln0 : Nat → Nat) (Ls0 : List Nat) (hW0 : SW K0 ln0 Ls0) (hp0 : Nat → Nat → Value) (ok0 : Ok K0 hp0) (qa900 qa901 : Nat) (km : K0 qa900 = 13) (kx : K0 qa901 = 12) (g0 gn0 : Nat) (hg0 : 256 ≤ g0 ∧ g0 ≤ 131072) (hga0 : g0 ≤ gn0) (pdNS : NSx K0 ln0 hp0 gn0) (pdLW : LW hp0 qa900) (zi3 : Int32) (hz3 : (0 : Int) ≤ zi3.toInt ∧ zi3.toInt ≤ 3066) (hz6 : zi3.toInt + 6 ≤ (L : Nat)) {Q : State → Prop} (kk : ∀ (K ln : Nat → Nat) (Ls : List Nat) (gn : Nat) (hp : Nat → Nat → Value) (H : Heap) (locs : List Loc) (ls : Array Slot), SW K ln Ls → Ok K hp → NSx K ln hp gn → g0 ≤ gn → LW hp qa900 → K qa900 = 13 → K qa901 = 12 → lv_has ls 4 [(0, .ref b), (1, .ref qa901), (2, .ref qa900), (3, .int zi3)] → PW G cy K ln Ls A hp H → va_S A s.heap H locs → W p l e room_1 s m #[Value.ref b] below meth c H locs (400 + (gn - g0)) (100000 + 14 * (gn - g0)) Q (F0 m 1044 ls [])) (H : Heap) (locs : List Loc) (ls : Array Slot) (hl : lv_has ls 4 [(0, .ref b), (1, .ref qa901), (2, .ref qa900), (3, .int zi3)]) (hw : PW G cy K0 ln0 Ls0 A hp0 H) (hS : va_S A s.heap H locs) : W p l e room_1 s m #[Value.ref b] below meth c H locs (400 + (gn0 - g0)) (100000 + 14 * (gn0 - g0)) Q (F0 m 262 ls []) := by
  obtain ⟨K, ln, Ls, gn, hW, ok1, hga, hge, km, kx, pdNS, hw⟩ : ∃ (K ln : Nat → Nat) (Ls : List Nat) (gn : Nat), SW K ln Ls ∧ Ok K hp0 ∧ g0 ≤ gn ∧ gn = gn0 ∧ K qa900 = 13 ∧ K qa901 = 12 ∧ NSx K ln hp0 gn ∧ PW G cy K ln Ls A hp0 H := ⟨K0, ln0, Ls0, gn0, hW0, ok0, hga0, rfl, km, kx, pdNS, hw⟩
  have hgn := NSx.bd pdNS
  refine W.widen (k := 400 + (gn - g0)) (n := 100000 + 14 * (gn - g0)) (by omega) (by omega) ?_
  refine lv_aload_n hx hb dL_law_262 rfl (lv_at hl 1 rfl) ?_
  refine kq_i hw hS hA (va_runV (As := []) (rest := []) ⟨hx, hb, hml, hown, hT⟩ (cX11_read_0 l G cy ev K ln Ls hW _ hp0 ok1 qa901 kx) (cwV 0 hT (good_V tb_724 tb_721 tb_722 tb_723 tb_105) rfl rfl rfl (by decide +kernel) ⟨Nat.le_of_ble_eq_true rfl, Nat.le_of_ble_eq_true rfl⟩) (pool_preV (ci := 11) hK hE hS hA hw hW kx (by decide) rfl) rfl rfl hl.1 rfl (lv_room (Nat.le_of_ble_eq_true rfl)) dL_law_263 ⟨(show (400 + (gn - g0)) + 0 ≤ 600000 from by omega), (show (100000 + 14 * (gn - g0)) + 0 ≤ 7302250 from by omega)⟩) (fun zi5 hp1 H locs hq4 hw hS => ?_)
  obtain ⟨ok2, F3⟩ := hq4
  have hw : PW G cy K ln Ls A hp1 H := hw
  refine lv_pop hx hb dL_law_266 rfl ?_
  refine lv_aload_n hx hb dL_law_267 rfl (lv_at hl 2 rfl) ?_
  have pd6 : LW hp1 qa900 := LW_fr ok1 km (show Fr [1005, 2003, 3002, 5005, 6001, 6002, 6003, 6004, 6005, 6006, 8000, 8001, 8002, 8003, 8004, 8005, 9001, 10004, 11000, 11001, 11002, 11003, 11004, 11005, 11006, 11007, 11008, 11009, 12001, 12003, 12004, 12008, 22000, 26000, 40000, 41000, 42000, 44000, 45000, 46000, 48000, 49000, 50000, 51000, 52000, 53000, 54000, 55000, 59000] K hp0 hp1 from (Fr.tr (Fr.rf) F3 (by decide))) (by decide) pdLW
  refine kq_i hw hS hA (va_runV (As := []) (rest := []) ⟨hx, hb, hml, hown, hT⟩ (cX12_read_0 l G cy ev K ln Ls hW _ hp1 ok2 qa900 km pd6) (cwV 0 hT (good_V tb_1597 tb_1594 tb_1595 tb_1596 tb_122) rfl rfl rfl (by decide +kernel) ⟨Nat.le_of_ble_eq_true rfl, Nat.le_of_ble_eq_true rfl⟩) (pool_preV (ci := 12) hK hE hS hA hw hW km (by decide) rfl) rfl rfl hl.1 rfl (lv_room (Nat.le_of_ble_eq_true rfl)) dL_law_268 ⟨(show (400 + (gn - g0)) + 0 ≤ 600000 from by omega), (show (100000 + 14 * (gn - g0)) + 0 ≤ 7302250 from by omega)⟩) (fun zi11 hp7 H locs hq10 hw hS => ?_)
  obtain ⟨ok8, F9, bd12, ⟨zi13, eq14, bd15⟩, ⟨zi16, eq17, bd18⟩, xq19⟩ := hq10
  have hw : PW G cy K ln Ls A hp7 H := hw
  refine lv_pop hx hb dL_law_271 rfl ?_
  refine lv_goto (tgt := 1044) hx hb dL_law_272 (by decide) ?_
  have pd20 : NSx K ln hp7 gn := NSx_fr ok1  (show Fr [1005, 2003, 3002, 5005, 6001, 6002, 6003, 6004, 6005, 6006, 8000, 8001, 8002, 8003, 8004, 8005, 9001, 10004, 11000, 11001, 11002, 11003, 11004, 11005, 11006, 11007, 11008, 11009, 12001, 12003, 12004, 12008, 13002, 13004, 13010, 13011, 13012, 13013, 13014, 13015, 13016, 13017, 13018, 13019, 13020, 13038, 13045, 13053, 13061, 22000, 26000, 40000, 41000, 42000, 44000, 45000, 46000, 48000, 49000, 50000, 51000, 52000, 53000, 54000, 55000, 59000, 61000, 62000, 63000, 64000, 65000, 67000, 68000, 69000, 70000, 71000, 72000, 73000, 74000, 75000, 76000, 77000, 78000, 79000, 80000, 81000, 82000, 83000, 84000, 85000, 86000, 87000, 88000, 89000, 92000, 93000, 101000] K hp0 hp7 from (Fr.tr (Fr.tr (Fr.rf) F3 (by decide)) F9 (by decide))) (by decide) pdNS
  exact kk K ln Ls gn hp7 _ _ ls hW ok8 pd20 (by omega) xq19 km kx (lv_sub hl [0, 1, 2, 3] rfl) hw hS

set_option maxRecDepth 100000 in
set_option maxHeartbeats 8000000 in
theorem law_c_3 {p : Program} {e : Env} {s : State} {m : MethodId} {below : List Frame} {meth : Method} {c : Code} (l : Launch) {b L : Nat} {xs : Nat → Int32} (hL : L ≤ 3072) (hx : p.tables.exec = Jvm.exec) (hb : c.code = code) (hml : c.maxLocals = 4) (hown : s.vm.findClass "LieClockLaw" = some m.cls) (hT : ∀ w ∈ TB, w.before #[Value.ref b] s = true) (hX : va_X b L xs s s.heap) (hbl : b < s.heap.size) (G : va_G) (cy : Nat → ClassId) (ev : Ew) (hK : KK G cy s) (A : Nat → Prop) (hA : ∀ q : Nat, s.heap.size ≤ q → A q) (hbA : ¬ A b) (hE : EW ev A s s.heap) (K0 ln0 : Nat → Nat) (Ls0 : List Nat) (hW0 : SW K0 ln0 Ls0) (hp0 : Nat → Nat → Value) (ok0 : Ok K0 hp0) (qa900 qa901 : Nat) (km : K0 qa900 = 13) (kx : K0 qa901 = 12) (g0 gn0 : Nat) (hg0 : 256 ≤ g0 ∧ g0 ≤ 131072) (hga0 : g0 ≤ gn0) (pdNS : NSx K0 ln0 hp0 gn0) (pdLW : LW hp0 qa900) (zi3 : Int32) (hz3 : (0 : Int) ≤ zi3.toInt ∧ zi3.toInt ≤ 3066) (hz6 : zi3.toInt + 6 ≤ (L : Nat)) {Q : State → Prop} (kk : ∀ (K ln : Nat → Nat) (Ls : List Nat) (gn : Nat) (hp : Nat → Nat → Value) (H : Heap) (locs : List Loc) (ls : Array Slot), SW K ln Ls → Ok K hp → NSx K ln hp gn → g0 ≤ gn → LW hp qa900 → K qa900 = 13 → K qa901 = 12 → lv_has ls 4 [(0, .ref b), (1, .ref qa901), (2, .ref qa900), (3, .int zi3)] → PW G cy K ln Ls A hp H → va_S A s.heap H locs → W p l e room_1 s m #[Value.ref b] below meth c H locs (400 + (gn - g0)) (100000 + 14 * (gn - g0)) Q (F0 m 1044 ls [])) (H : Heap) (locs : List Loc) (ls : Array Slot) (hl : lv_has ls 4 [(0, .ref b), (1, .ref qa901), (2, .ref qa900), (3, .int zi3)]) (hw : PW G cy K0 ln0 Ls0 A hp0 H) (hS : va_S A s.heap H locs) : W p l e room_1 s m #[Value.ref b] below meth c H locs (400 + (gn0 - g0)) (100000 + 14 * (gn0 - g0)) Q (F0 m 275 ls []) := by
  obtain ⟨K, ln, Ls, gn, hW, ok1, hga, hge, km, kx, pdNS, hw⟩ : ∃ (K ln : Nat → Nat) (Ls : List Nat) (gn : Nat), SW K ln Ls ∧ Ok K hp0 ∧ g0 ≤ gn ∧ gn = gn0 ∧ K qa900 = 13 ∧ K qa901 = 12 ∧ NSx K ln hp0 gn ∧ PW G cy K ln Ls A hp0 H := ⟨K0, ln0, Ls0, gn0, hW0, ok0, hga0, rfl, km, kx, pdNS, hw⟩
  have hgn := NSx.bd pdNS
  refine W.widen (k := 400 + (gn - g0)) (n := 100000 + 14 * (gn - g0)) (by omega) (by omega) ?_
  refine lv_aload_n hx hb dL_law_275 rfl (lv_at hl 1 rfl) ?_
  refine kq_i hw hS hA (va_runV (As := []) (rest := []) ⟨hx, hb, hml, hown, hT⟩ (cX11_place_0 l G cy ev K ln Ls hW _ hp0 ok1 qa901 kx) (cwV 0 hT (good_V tb_981 tb_978 tb_979 tb_980 tb_105) rfl rfl rfl (by decide +kernel) ⟨Nat.le_of_ble_eq_true rfl, Nat.le_of_ble_eq_true rfl⟩) (pool_preV (ci := 11) hK hE hS hA hw hW kx (by decide) rfl) rfl rfl hl.1 rfl (lv_room (Nat.le_of_ble_eq_true rfl)) dL_law_276 ⟨(show (400 + (gn - g0)) + 0 ≤ 600000 from by omega), (show (100000 + 14 * (gn - g0)) + 0 ≤ 7302250 from by omega)⟩) (fun zi5 hp1 H locs hq4 hw hS => ?_)
  obtain ⟨ok2, F3⟩ := hq4
  obtain rfl : hp0 = hp1 := (Fr.nil F3).symm
  have hw : PW G cy K ln Ls A hp0 H := hw
  refine lv_pop hx hb dL_law_279 rfl ?_
  refine lv_aload_n hx hb dL_law_280 rfl (lv_at hl 2 rfl) ?_
  refine kq_i hw hS hA (va_runV (As := []) (rest := []) ⟨hx, hb, hml, hown, hT⟩ (cX12_place_0 l G cy ev K ln Ls hW _ hp0 ok1 qa900 km) (cwV 0 hT (good_V tb_1723 tb_1720 tb_1721 tb_1722 tb_122) rfl rfl rfl (by decide +kernel) ⟨Nat.le_of_ble_eq_true rfl, Nat.le_of_ble_eq_true rfl⟩) (pool_preV (ci := 12) hK hE hS hA hw hW km (by decide) rfl) rfl rfl hl.1 rfl (lv_room (Nat.le_of_ble_eq_true rfl)) dL_law_281 ⟨(show (400 + (gn - g0)) + 0 ≤ 600000 from by omega), (show (100000 + 14 * (gn - g0)) + 0 ≤ 7302250 from by omega)⟩) (fun zi10 hp6 H locs hq9 hw hS => ?_)
  obtain ⟨ok7, F8⟩ := hq9
  obtain rfl : hp0 = hp6 := (Fr.nil F8).symm
  have hw : PW G cy K ln Ls A hp0 H := hw
  refine lv_pop hx hb dL_law_284 rfl ?_
  refine lv_goto (tgt := 1044) hx hb dL_law_285 (by decide) ?_
  exact kk K ln Ls gn hp0 _ _ ls hW ok1 pdNS (by omega) pdLW km kx (lv_sub hl [0, 1, 2, 3] rfl) hw hS
