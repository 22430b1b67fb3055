set_option maxRecDepth 100000 in
set_option maxHeartbeats 8000000 in
theorem law_c_16 {p : Program} {e : Env} {s : State} {m : MethodId} {below : List Frame} {meth : Method} {c : Code} (l : Launch) {b L : Nat} {xs : Nat → Int32} (hL : L ≤ 3072) (hx : p.tables.exec = Jvm.exec) (hb : c.code = code) (hml : c.maxLocals = 4) (hown : s.vm.findClass "LieClockLaw" = some m.cls) (hT : ∀ w ∈ TB, w.before #[Value.ref b] s = true) (hX : va_X b L xs s s.heap) (hbl : b < s.heap.size) (G : va_G) (cy : Nat → ClassId) (ev : Ew) (hK : KK G cy s) (A : Nat → Prop) (hA : ∀ q : Nat, s.heap.size ≤ q → A q) (hbA : ¬ A b) (hE : EW ev A s s.heap) (K0 ln0 : Nat → Nat) (Ls0 : List Nat) (hW0 : SW K0 ln0 Ls0) (hp0 : Nat → Nat → Value) (ok0 : Ok K0 hp0) (qa900 qa901 : Nat) (km : K0 qa900 = 13) (kx : K0 qa901 = 12) (g0 gn0 : Nat) (hg0 : 256 ≤ g0 ∧ g0 ≤ 131072) (hga0 : g0 ≤ gn0) (pdNS : NSx K0 ln0 hp0 gn0) (pdLW : LW hp0 qa900) (zi3 : Int32) (hz3 : (0 : Int) ≤ zi3.toInt ∧ zi3.toInt ≤ 3066) (hz6 : zi3.toInt + 6 ≤ (L : Nat)) {Q : State → Prop} (kk : ∀ (K ln : Nat → Nat) (Ls : List Nat) (gn : Nat) (hp : Nat → Nat → Value) (H : Heap) (locs : List Loc) (ls : Array Slot), SW K ln Ls → Ok K hp → NSx K ln hp gn → g0 ≤ gn → LW hp qa900 → K qa900 = 13 → K qa901 = 12 → lv_has ls 4 [(0, .ref b), (1, .ref qa901), (2, .ref qa900), (3, .int zi3)] → PW G cy K ln Ls A hp H → va_S A s.heap H locs → W p l e room_1 s m #[Value.ref b] below meth c H locs (400 + (gn - g0)) (100000 + 14 * (gn - g0)) Q (F0 m 1044 ls [])) (H : Heap) (locs : List Loc) (ls : Array Slot) (hl : lv_has ls 4 [(0, .ref b), (1, .ref qa901), (2, .ref qa900), (3, .int zi3)]) (hw : PW G cy K0 ln0 Ls0 A hp0 H) (hS : va_S A s.heap H locs) : W p l e room_1 s m #[Value.ref b] below meth c H locs (400 + (gn0 - g0)) (100000 + 14 * (gn0 - g0)) Q (F0 m 604 ls []) := by
  obtain ⟨K, ln, Ls, gn, hW, ok1, hga, hge, km, kx, pdNS, hw⟩ : ∃ (K ln : Nat → Nat) (Ls : List Nat) (gn : Nat), SW K ln Ls ∧ Ok K hp0 ∧ g0 ≤ gn ∧ gn = gn0 ∧ K qa900 = 13 ∧ K qa901 = 12 ∧ NSx K ln hp0 gn ∧ PW G cy K ln Ls A hp0 H := ⟨K0, ln0, Ls0, gn0, hW0, ok0, hga0, rfl, km, kx, pdNS, hw⟩
  have hgn := NSx.bd pdNS
  refine W.widen (k := 400 + (gn - g0)) (n := 100000 + 14 * (gn - g0)) (by omega) (by omega) ?_
  refine lv_aload_n hx hb dL_law_604 rfl (lv_at hl 1 rfl) ?_
  refine lv_aload_n hx hb dL_law_605 rfl (lv_at hl 0 rfl) ?_
  refine lv_iload_n hx hb dL_law_606 rfl (lv_at hl 3 rfl) ?_
  refine lv_iconst (v := 1) hx hb dL_law_607 (by decide) ?_
  refine lv_iadd hx hb dL_law_608 (lv_topi (fun zi1 ea2 => ?_))
  have bd3 : (1 : Int) ≤ zi1.toInt ∧ zi1.toInt ≤ 3067 := b_iadd ea2 hz3 bc_1 (by decide) (by decide) (by decide) (by decide)
  have qe4 : zi1.toInt = (zi3 : Int32).toInt + (1 : Int32).toInt := e_iadd ea2 hz3 bc_1 (by decide) (by decide)
  have qe5 : zi1.toInt = zi3.toInt + 1 := by have ha : (1 : Int32).toInt = 1 := (by decide); rw [ha] at qe4; exact qe4
  refine va_sld hx hb hX hbl hbA hS (vp_bv (by omega) (by omega)) dL_law_609 (lv_topi (fun zi6 ez7 => ?_))
  refine lv_aload_n hx hb dL_law_610 rfl (lv_at hl 0 rfl) ?_
  refine lv_iload_n hx hb dL_law_611 rfl (lv_at hl 3 rfl) ?_
  refine lv_iconst (v := 2) hx hb dL_law_612 (by decide) ?_
  refine lv_iadd hx hb dL_law_613 (lv_topi (fun zi8 ea9 => ?_))
  have bd10 : (2 : Int) ≤ zi8.toInt ∧ zi8.toInt ≤ 3068 := b_iadd ea9 hz3 bc_2 (by decide) (by decide) (by decide) (by decide)
  have qe11 : zi8.toInt = (zi3 : Int32).toInt + (2 : Int32).toInt := e_iadd ea9 hz3 bc_2 (by decide) (by decide)
  have qe12 : zi8.toInt = zi3.toInt + 2 := by have ha : (2 : Int32).toInt = 2 := (by decide); rw [ha] at qe11; exact qe11
  refine va_sld hx hb hX hbl hbA hS (vp_bv (by omega) (by omega)) dL_law_614 (lv_topi (fun zi13 ez14 => ?_))
  refine lv_aload_n hx hb dL_law_615 rfl (lv_at hl 0 rfl) ?_
  refine lv_iload_n hx hb dL_law_616 rfl (lv_at hl 3 rfl) ?_
  refine lv_iconst (v := 3) hx hb dL_law_617 (by decide) ?_
  refine lv_iadd hx hb dL_law_618 (lv_topi (fun zi15 ea16 => ?_))
  have bd17 : (3 : Int) ≤ zi15.toInt ∧ zi15.toInt ≤ 3069 := b_iadd ea16 hz3 bc_3 (by decide) (by decide) (by decide) (by decide)
  have qe18 : zi15.toInt = (zi3 : Int32).toInt + (3 : Int32).toInt := e_iadd ea16 hz3 bc_3 (by decide) (by decide)
  have qe19 : zi15.toInt = zi3.toInt + 3 := by have ha : (3 : Int32).toInt = 3 := (by decide); rw [ha] at qe18; exact qe18
  refine va_sld hx hb hX hbl hbA hS (vp_bv (by omega) (by omega)) dL_law_619 (lv_topi (fun zi20 ez21 => ?_))
  refine kg_i hw hS hA (va_runV (As := [.int zi6, .int zi13, .int zi20]) (rest := []) ⟨hx, hb, hml, hown, hT⟩ (Met.szx (cX11_aheadAt_0 l G cy ev K ln Ls hW _ hp0 ok1 qa901 zi6 zi13 zi20 gn kx pdNS)) (cwV 3 hT (good_V tb_1206 tb_1203 tb_1204 tb_1205 tb_105) rfl rfl rfl (by decide +kernel) ⟨Nat.le_of_ble_eq_true rfl, Nat.le_of_ble_eq_true rfl⟩) (pool_preV (ci := 11) hK hE hS hA hw hW kx (by decide) rfl) rfl rfl hl.1 rfl (lv_room (Nat.le_of_ble_eq_true rfl)) dL_law_620 ⟨(show (400 + (gn - g0)) + 327680 ≤ 600000 from by omega), (show (100000 + 14 * (gn - g0)) + 4580352 ≤ 7302250 from by omega)⟩) (fun zi30 u gn H locs hq22 hw hS => ?_)
  obtain ⟨K, ln, Ls, hp23⟩ := u
  obtain ⟨ex25, hW, ok24, fx26, pd27, hle28⟩ := hq22
  have ex25 : EXx _ _ K ln := ex25
  have hW : SW K ln Ls := hW
  have ok24 : Ok K hp23 := ok24
  have fx26 : FrX _ _ _ hp23 := fx26
  have pd27 : NSx K ln hp23 gn := pd27
  have hle28 : _ ≤ gn := hle28
  have hw : PW G cy K ln Ls A hp23 H := hw
  have pd32 : LW hp23 qa900 := LW_frX ok1 km fx26 pdLW
  have kd33 := EXx.kd ex25 km (by decide)
  have kd34 := EXx.kd ex25 kx (by decide)
  have hgn := NSx.bd pd27
  refine W.widen (k := (400 + (gn - g0))) (n := (100000 + 14 * (gn - g0))) (by omega) (by omega) ?_
  have hga : g0 ≤ gn := by omega
  refine lv_pop hx hb dL_law_623 rfl ?_
  refine lv_aload_n hx hb dL_law_624 rfl (lv_at hl 2 rfl) ?_
  refine lv_aload_n hx hb dL_law_625 rfl (lv_at hl 0 rfl) ?_
  refine lv_iload_n hx hb dL_law_626 rfl (lv_at hl 3 rfl) ?_
  refine lv_iconst (v := 1) hx hb dL_law_627 (by decide) ?_
  refine lv_iadd hx hb dL_law_628 (lv_topi (fun zi35 ea36 => ?_))
  have bd37 : (1 : Int) ≤ zi35.toInt ∧ zi35.toInt ≤ 3067 := b_iadd ea36 hz3 bc_1 (by decide) (by decide) (by decide) (by decide)
  have qe38 : zi35.toInt = (zi3 : Int32).toInt + (1 : Int32).toInt := e_iadd ea36 hz3 bc_1 (by decide) (by decide)
  have qe39 : zi35.toInt = zi3.toInt + 1 := by have ha : (1 : Int32).toInt = 1 := (by decide); rw [ha] at qe38; exact qe38
  refine va_sld hx hb hX hbl hbA hS (vp_bv (by omega) (by omega)) dL_law_629 (lv_topi (fun zi40 ez41 => ?_))
  refine lv_aload_n hx hb dL_law_630 rfl (lv_at hl 0 rfl) ?_
  refine lv_iload_n hx hb dL_law_631 rfl (lv_at hl 3 rfl) ?_
  refine lv_iconst (v := 2) hx hb dL_law_632 (by decide) ?_
  refine lv_iadd hx hb dL_law_633 (lv_topi (fun zi42 ea43 => ?_))
  have bd44 : (2 : Int) ≤ zi42.toInt ∧ zi42.toInt ≤ 3068 := b_iadd ea43 hz3 bc_2 (by decide) (by decide) (by decide) (by decide)
  have qe45 : zi42.toInt = (zi3 : Int32).toInt + (2 : Int32).toInt := e_iadd ea43 hz3 bc_2 (by decide) (by decide)
  have qe46 : zi42.toInt = zi3.toInt + 2 := by have ha : (2 : Int32).toInt = 2 := (by decide); rw [ha] at qe45; exact qe45
  refine va_sld hx hb hX hbl hbA hS (vp_bv (by omega) (by omega)) dL_law_634 (lv_topi (fun zi47 ez48 => ?_))
  refine lv_aload_n hx hb dL_law_635 rfl (lv_at hl 0 rfl) ?_
  refine lv_iload_n hx hb dL_law_636 rfl (lv_at hl 3 rfl) ?_
  refine lv_iconst (v := 3) hx hb dL_law_637 (by decide) ?_
  refine lv_iadd hx hb dL_law_638 (lv_topi (fun zi49 ea50 => ?_))
  have bd51 : (3 : Int) ≤ zi49.toInt ∧ zi49.toInt ≤ 3069 := b_iadd ea50 hz3 bc_3 (by decide) (by decide) (by decide) (by decide)
  have qe52 : zi49.toInt = (zi3 : Int32).toInt + (3 : Int32).toInt := e_iadd ea50 hz3 bc_3 (by decide) (by decide)
  have qe53 : zi49.toInt = zi3.toInt + 3 := by have ha : (3 : Int32).toInt = 3 := (by decide); rw [ha] at qe52; exact qe52
  refine va_sld hx hb hX hbl hbA hS (vp_bv (by omega) (by omega)) dL_law_639 (lv_topi (fun zi54 ez55 => ?_))
  refine kq_i hw hS hA (va_runV (As := [.int zi40, .int zi47, .int zi54]) (rest := []) ⟨hx, hb, hml, hown, hT⟩ (cX12_aheadAt_0 l G cy ev K ln Ls hW _ hp23 ok24 qa900 zi40 zi47 zi54 kd33 pd32) (cwV 3 hT (good_V tb_1871 tb_1868 tb_1869 tb_1870 tb_122) rfl rfl rfl (by decide +kernel) ⟨Nat.le_of_ble_eq_true rfl, Nat.le_of_ble_eq_true rfl⟩) (pool_preV (ci := 12) hK hE hS hA hw hW kd33 (by decide) rfl) rfl rfl hl.1 rfl (lv_room (Nat.le_of_ble_eq_true rfl)) dL_law_640 ⟨(show (400 + (gn - g0)) + 0 ≤ 600000 from by omega), (show (100000 + 14 * (gn - g0)) + 0 ≤ 7302250 from by omega)⟩) (fun zi60 hp56 H locs hq59 hw hS => ?_)
  obtain ⟨ok57, F58, bd61⟩ := hq59
  have hw : PW G cy K ln Ls A hp56 H := hw
  refine lv_pop hx hb dL_law_643 rfl ?_
  refine lv_goto (tgt := 1044) hx hb dL_law_644 (by decide) ?_
  have pd62 : NSx K ln hp56 gn := NSx_fr ok24  (show Fr [13048, 13051, 13055, 90000, 91000, 93000, 95000] K hp23 hp56 from (Fr.tr (Fr.rf) F58 (by decide))) (by decide) pd27
  have pd63 : LW hp56 qa900 := LW_fr ok24 kd33 (show Fr [13048, 13051, 13055, 90000, 91000, 93000, 95000] K hp23 hp56 from (Fr.tr (Fr.rf) F58 (by decide))) (by decide) pd32
  exact kk K ln Ls gn hp56 _ _ ls hW ok57 pd62 (by omega) pd63 kd33 kd34 (lv_sub hl [0, 1, 2, 3] rfl) hw hS

set_option maxRecDepth 100000 in
set_option maxHeartbeats 8000000 in
theorem law_c_17 {p : Program} {e : Env} {s : State} {m : MethodId} {below : List Frame} {meth : Method} {c : Code} (l : Launch) {b L : Nat} {xs : Nat → Int32} (hL : L ≤ 3072) (hx : p.tables.exec = Jvm.exec) (hb : c.code = code) (hml : c.maxLocals = 4) (hown : s.vm.findClass "LieClockLaw" = some m.cls) (hT : ∀ w ∈ TB, w.before #[Value.ref b] s = true) (hX : va_X b L xs s s.heap) (hbl : b < s.heap.size) (G : va_G) (cy : Nat → ClassId) (ev : Ew) (hK : KK G cy s) (A : Nat → Prop) (hA : ∀ q : Nat, s.heap.size ≤ q → A q) (hbA : ¬ A b) (hE : EW ev A s s.heap) (K0 ln0 : Nat → Nat) (Ls0 : List Nat) (hW0 : SW K0 ln0 Ls0) (hp0 : Nat → Nat → Value) (ok0 : Ok K0 hp0) (qa900 qa901 : Nat) (km : K0 qa900 = 13) (kx : K0 qa901 = 12) (g0 gn0 : Nat) (hg0 : 256 ≤ g0 ∧ g0 ≤ 131072) (hga0 : g0 ≤ gn0) (pdNS : NSx K0 ln0 hp0 gn0) (pdLW : LW hp0 qa900) (zi3 : Int32) (hz3 : (0 : Int) ≤ zi3.toInt ∧ zi3.toInt ≤ 3066) (hz6 : zi3.toInt + 6 ≤ (L : Nat)) {Q : State → Prop} (kk : ∀ (K ln : Nat → Nat) (Ls : List Nat) (gn : Nat) (hp : Nat → Nat → Value) (H : Heap) (locs : List Loc) (ls : Array Slot), SW K ln Ls → Ok K hp → NSx K ln hp gn → g0 ≤ gn → LW hp qa900 → K qa900 = 13 → K qa901 = 12 → lv_has ls 4 [(0, .ref b), (1, .ref qa901), (2, .ref qa900), (3, .int zi3)] → PW G cy K ln Ls A hp H → va_S A s.heap H locs → W p l e room_1 s m #[Value.ref b] below meth c H locs (400 + (gn - g0)) (100000 + 14 * (gn - g0)) Q (F0 m 1044 ls [])) (H : Heap) (locs : List Loc) (ls : Array Slot) (hl : lv_has ls 4 [(0, .ref b), (1, .ref qa901), (2, .ref qa900), (3, .int zi3)]) (hw : PW G cy K0 ln0 Ls0 A hp0 H) (hS : va_S A s.heap H locs) : W p l e room_1 s m #[Value.ref b] below meth c H locs (400 + (gn0 - g0)) (100000 + 14 * (gn0 - g0)) Q (F0 m 647 ls []) := by
  obtain ⟨K, ln, Ls, gn, hW, ok1, hga, hge, km, kx, pdNS, hw⟩ : ∃ (K ln : Nat → Nat) (Ls : List Nat) (gn : Nat), SW K ln Ls ∧ Ok K hp0 ∧ g0 ≤ gn ∧ gn = gn0 ∧ K qa900 = 13 ∧ K qa901 = 12 ∧ NSx K ln hp0 gn ∧ PW G cy K ln Ls A hp0 H := ⟨K0, ln0, Ls0, gn0, hW0, ok0, hga0, rfl, km, kx, pdNS, hw⟩
  have hgn := NSx.bd pdNS
  refine W.widen (k := 400 + (gn - g0)) (n := 100000 + 14 * (gn - g0)) (by omega) (by omega) ?_
  refine lv_aload_n hx hb dL_law_647 rfl (lv_at hl 1 rfl) ?_
  refine lv_aload_n hx hb dL_law_648 rfl (lv_at hl 0 rfl) ?_
  refine lv_iload_n hx hb dL_law_649 rfl (lv_at hl 3 rfl) ?_
  refine lv_iconst (v := 1) hx hb dL_law_650 (by decide) ?_
  refine lv_iadd hx hb dL_law_651 (lv_topi (fun zi1 ea2 => ?_))
  have bd3 : (1 : Int) ≤ zi1.toInt ∧ zi1.toInt ≤ 3067 := b_iadd ea2 hz3 bc_1 (by decide) (by decide) (by decide) (by decide)
  have qe4 : zi1.toInt = (zi3 : Int32).toInt + (1 : Int32).toInt := e_iadd ea2 hz3 bc_1 (by decide) (by decide)
  have qe5 : zi1.toInt = zi3.toInt + 1 := by have ha : (1 : Int32).toInt = 1 := (by decide); rw [ha] at qe4; exact qe4
  refine va_sld hx hb hX hbl hbA hS (vp_bv (by omega) (by omega)) dL_law_652 (lv_topi (fun zi6 ez7 => ?_))
  refine lv_aload_n hx hb dL_law_653 rfl (lv_at hl 0 rfl) ?_
  refine lv_iload_n hx hb dL_law_654 rfl (lv_at hl 3 rfl) ?_
  refine lv_iconst (v := 2) hx hb dL_law_655 (by decide) ?_
  refine lv_iadd hx hb dL_law_656 (lv_topi (fun zi8 ea9 => ?_))
  have bd10 : (2 : Int) ≤ zi8.toInt ∧ zi8.toInt ≤ 3068 := b_iadd ea9 hz3 bc_2 (by decide) (by decide) (by decide) (by decide)
  have qe11 : zi8.toInt = (zi3 : Int32).toInt + (2 : Int32).toInt := e_iadd ea9 hz3 bc_2 (by decide) (by decide)
  have qe12 : zi8.toInt = zi3.toInt + 2 := by have ha : (2 : Int32).toInt = 2 := (by decide); rw [ha] at qe11; exact qe11
  refine va_sld hx hb hX hbl hbA hS (vp_bv (by omega) (by omega)) dL_law_657 (lv_topi (fun zi13 ez14 => ?_))
  refine lv_if_eq (tgt := 665) hx hb dL_law_658 (by decide) (fun cn15 => ?_) (fun cn15 => ?_)
  · skip
    have bd16 : (0 : Int) ≤ zi13.toInt ∧ zi13.toInt ≤ 0 := r_eq_x cn15 (b_all zi13) bc_0 (by decide) (by decide)
    refine lv_iconst (v := 0) hx hb dL_law_665 (by decide) ?_
    refine kq_i hw hS hA (va_runV (As := [.int zi6, .int 0]) (rest := []) ⟨hx, hb, hml, hown, hT⟩ (cX11_order_0 l G cy ev K ln Ls hW _ hp0 ok1 qa901 zi6 0 kx (b_wid2 bc_0 (by decide) (by decide))) (cwV 2 hT (good_V tb_1210 tb_1207 tb_1208 tb_1209 tb_105) rfl rfl rfl (by decide +kernel) ⟨Nat.le_of_ble_eq_true rfl, Nat.le_of_ble_eq_true rfl⟩) (pool_preV (ci := 11) hK hE hS hA hw hW kx (by decide) rfl) rfl rfl hl.1 rfl (lv_room (Nat.le_of_ble_eq_true rfl)) dL_law_666 ⟨(show (400 + (gn - g0)) + 0 ≤ 600000 from by omega), (show (100000 + 14 * (gn - g0)) + 0 ≤ 7302250 from by omega)⟩) (fun zi21 hp17 H locs hq20 hw hS => ?_)
    obtain ⟨ok18, F19⟩ := hq20
    have hw : PW G cy K ln Ls A hp17 H := hw
    refine lv_pop hx hb dL_law_669 rfl ?_
    refine lv_aload_n hx hb dL_law_670 rfl (lv_at hl 2 rfl) ?_
    refine lv_aload_n hx hb dL_law_671 rfl (lv_at hl 0 rfl) ?_
    refine lv_iload_n hx hb dL_law_672 rfl (lv_at hl 3 rfl) ?_
    refine lv_iconst (v := 1) hx hb dL_law_673 (by decide) ?_
    refine lv_iadd hx hb dL_law_674 (lv_topi (fun zi22 ea23 => ?_))
    have bd24 : (1 : Int) ≤ zi22.toInt ∧ zi22.toInt ≤ 3067 := b_iadd ea23 hz3 bc_1 (by decide) (by decide) (by decide) (by decide)
    have qe25 : zi22.toInt = (zi3 : Int32).toInt + (1 : Int32).toInt := e_iadd ea23 hz3 bc_1 (by decide) (by decide)
    have qe26 : zi22.toInt = zi3.toInt + 1 := by have ha : (1 : Int32).toInt = 1 := (by decide); rw [ha] at qe25; exact qe25
    refine va_sld hx hb hX hbl hbA hS (vp_bv (by omega) (by omega)) dL_law_675 (lv_topi (fun zi27 ez28 => ?_))
    refine lv_aload_n hx hb dL_law_676 rfl (lv_at hl 0 rfl) ?_
    refine lv_iload_n hx hb dL_law_677 rfl (lv_at hl 3 rfl) ?_
    refine lv_iconst (v := 2) hx hb dL_law_678 (by decide) ?_
    refine lv_iadd hx hb dL_law_679 (lv_topi (fun zi29 ea30 => ?_))
    have bd31 : (2 : Int) ≤ zi29.toInt ∧ zi29.toInt ≤ 3068 := b_iadd ea30 hz3 bc_2 (by decide) (by decide) (by decide) (by decide)
    have qe32 : zi29.toInt = (zi3 : Int32).toInt + (2 : Int32).toInt := e_iadd ea30 hz3 bc_2 (by decide) (by decide)
    have qe33 : zi29.toInt = zi3.toInt + 2 := by have ha : (2 : Int32).toInt = 2 := (by decide); rw [ha] at qe32; exact qe32
    refine va_sld hx hb hX hbl hbA hS (vp_bv (by omega) (by omega)) dL_law_680 (lv_topi (fun zi34 ez35 => ?_))
    refine lv_if_eq (tgt := 688) hx hb dL_law_681 (by decide) (fun cn36 => ?_) (fun cn36 => ?_)
    · skip
      have bd37 : (0 : Int) ≤ zi34.toInt ∧ zi34.toInt ≤ 0 := r_eq_x cn36 (b_all zi34) bc_0 (by decide) (by decide)
      refine lv_iconst (v := 0) hx hb dL_law_688 (by decide) ?_
      have pd38 : LW hp17 qa900 := LW_fr ok1 km (show Fr [3003, 3004, 5003, 5004, 5005, 5006, 5007, 8000, 8001, 8002, 8003, 8004, 8005, 8006, 8008, 27000, 35000, 36000, 40000, 41000, 42000] K hp0 hp17 from (Fr.tr (Fr.rf) F19 (by decide))) (by decide) pdLW
      refine kq_i hw hS hA (va_runV (As := [.int zi27, .int 0]) (rest := []) ⟨hx, hb, hml, hown, hT⟩ (cX12_order_0 l G cy ev K ln Ls hW _ hp17 ok18 qa900 zi27 0 km (b_wid2 bc_0 (by decide) (by decide)) pd38) (cwV 2 hT (good_V tb_1875 tb_1872 tb_1873 tb_1874 tb_122) rfl rfl rfl (by decide +kernel) ⟨Nat.le_of_ble_eq_true rfl, Nat.le_of_ble_eq_true rfl⟩) (pool_preV (ci := 12) hK hE hS hA hw hW km (by decide) rfl) rfl rfl hl.1 rfl (lv_room (Nat.le_of_ble_eq_true rfl)) dL_law_689 ⟨(show (400 + (gn - g0)) + 0 ≤ 600000 from by omega), (show (100000 + 14 * (gn - g0)) + 0 ≤ 7302250 from by omega)⟩) (fun zi43 hp39 H locs hq42 hw hS => ?_)
      obtain ⟨ok40, F41⟩ := hq42
      have hw : PW G cy K ln Ls A hp39 H := hw
      refine lv_pop hx hb dL_law_692 rfl ?_
      refine lv_goto (tgt := 1044) hx hb dL_law_693 (by decide) ?_
      have pd44 : NSx K ln hp39 gn := NSx_fr ok1  (show Fr [3003, 3004, 5003, 5004, 5005, 5006, 5007, 8000, 8001, 8002, 8003, 8004, 8005, 8006, 8008, 13048, 13051, 13057, 27000, 35000, 36000, 40000, 41000, 42000, 90000, 91000, 93000, 96000, 97000] K hp0 hp39 from (Fr.tr (Fr.tr (Fr.rf) F19 (by decide)) F41 (by decide))) (by decide) pdNS
      have pd45 : LW hp39 qa900 := LW_fr ok18 km (show Fr [13048, 13051, 13057, 90000, 91000, 93000, 96000, 97000] K hp17 hp39 from (Fr.tr (Fr.rf) F41 (by decide))) (by decide) pd38
      exact kk K ln Ls gn hp39 _ _ ls hW ok40 pd44 (by omega) pd45 km kx (lv_sub hl [0, 1, 2, 3] rfl) hw hS
    · skip
      have tf46 : (zi34 : Int32).toInt ≠ (0 : Int32).toInt := fun e => cn36 (Int32.toInt_inj.mp e)
      have := toi bc_0
      refine lv_iconst (v := 1) hx hb dL_law_684 (by decide) ?_
      refine lv_goto (tgt := 689) hx hb dL_law_685 (by decide) ?_
      have pd47 : LW hp17 qa900 := LW_fr ok1 km (show Fr [3003, 3004, 5003, 5004, 5005, 5006, 5007, 8000, 8001, 8002, 8003, 8004, 8005, 8006, 8008, 27000, 35000, 36000, 40000, 41000, 42000] K hp0 hp17 from (Fr.tr (Fr.rf) F19 (by decide))) (by decide) pdLW
      refine kq_i hw hS hA (va_runV (As := [.int zi27, .int 1]) (rest := []) ⟨hx, hb, hml, hown, hT⟩ (cX12_order_0 l G cy ev K ln Ls hW _ hp17 ok18 qa900 zi27 1 km (b_wid2 bc_1 (by decide) (by decide)) pd47) (cwV 2 hT (good_V tb_1875 tb_1872 tb_1873 tb_1874 tb_122) rfl rfl rfl (by decide +kernel) ⟨Nat.le_of_ble_eq_true rfl, Nat.le_of_ble_eq_true rfl⟩) (pool_preV (ci := 12) hK hE hS hA hw hW km (by decide) rfl) rfl rfl hl.1 rfl (lv_room (Nat.le_of_ble_eq_true rfl)) dL_law_689 ⟨(show (400 + (gn - g0)) + 0 ≤ 600000 from by omega), (show (100000 + 14 * (gn - g0)) + 0 ≤ 7302250 from by omega)⟩) (fun zi52 hp48 H locs hq51 hw hS => ?_)
      obtain ⟨ok49, F50⟩ := hq51
      have hw : PW G cy K ln Ls A hp48 H := hw
      refine lv_pop hx hb dL_law_692 rfl ?_
      refine lv_goto (tgt := 1044) hx hb dL_law_693 (by decide) ?_
      have pd53 : NSx K ln hp48 gn := NSx_fr ok1  (show Fr [3003, 3004, 5003, 5004, 5005, 5006, 5007, 8000, 8001, 8002, 8003, 8004, 8005, 8006, 8008, 13048, 13051, 13057, 27000, 35000, 36000, 40000, 41000, 42000, 90000, 91000, 93000, 96000, 97000] K hp0 hp48 from (Fr.tr (Fr.tr (Fr.rf) F19 (by decide)) F50 (by decide))) (by decide) pdNS
      have pd54 : LW hp48 qa900 := LW_fr ok18 km (show Fr [13048, 13051, 13057, 90000, 91000, 93000, 96000, 97000] K hp17 hp48 from (Fr.tr (Fr.rf) F50 (by decide))) (by decide) pd47
      exact kk K ln Ls gn hp48 _ _ ls hW ok49 pd53 (by omega) pd54 km kx (lv_sub hl [0, 1, 2, 3] rfl) hw hS
  · skip
    have tf55 : (zi13 : Int32).toInt ≠ (0 : Int32).toInt := fun e => cn15 (Int32.toInt_inj.mp e)
    have := toi bc_0
    refine lv_iconst (v := 1) hx hb dL_law_661 (by decide) ?_
    refine lv_goto (tgt := 666) hx hb dL_law_662 (by decide) ?_
    refine kq_i hw hS hA (va_runV (As := [.int zi6, .int 1]) (rest := []) ⟨hx, hb, hml, hown, hT⟩ (cX11_order_0 l G cy ev K ln Ls hW _ hp0 ok1 qa901 zi6 1 kx (b_wid2 bc_1 (by decide) (by decide))) (cwV 2 hT (good_V tb_1210 tb_1207 tb_1208 tb_1209 tb_105) rfl rfl rfl (by decide +kernel) ⟨Nat.le_of_ble_eq_true rfl, Nat.le_of_ble_eq_true rfl⟩) (pool_preV (ci := 11) hK hE hS hA hw hW kx (by decide) rfl) rfl rfl hl.1 rfl (lv_room (Nat.le_of_ble_eq_true rfl)) dL_law_666 ⟨(show (400 + (gn - g0)) + 0 ≤ 600000 from by omega), (show (100000 + 14 * (gn - g0)) + 0 ≤ 7302250 from by omega)⟩) (fun zi60 hp56 H locs hq59 hw hS => ?_)
    obtain ⟨ok57, F58⟩ := hq59
    have hw : PW G cy K ln Ls A hp56 H := hw
    refine lv_pop hx hb dL_law_669 rfl ?_
    refine lv_aload_n hx hb dL_law_670 rfl (lv_at hl 2 rfl) ?_
    refine lv_aload_n hx hb dL_law_671 rfl (lv_at hl 0 rfl) ?_
    refine lv_iload_n hx hb dL_law_672 rfl (lv_at hl 3 rfl) ?_
    refine lv_iconst (v := 1) hx hb dL_law_673 (by decide) ?_
    refine lv_iadd hx hb dL_law_674 (lv_topi (fun zi61 ea62 => ?_))
    have bd63 : (1 : Int) ≤ zi61.toInt ∧ zi61.toInt ≤ 3067 := b_iadd ea62 hz3 bc_1 (by decide) (by decide) (by decide) (by decide)
    have qe64 : zi61.toInt = (zi3 : Int32).toInt + (1 : Int32).toInt := e_iadd ea62 hz3 bc_1 (by decide) (by decide)
    have qe65 : zi61.toInt = zi3.toInt + 1 := by have ha : (1 : Int32).toInt = 1 := (by decide); rw [ha] at qe64; exact qe64
    refine va_sld hx hb hX hbl hbA hS (vp_bv (by omega) (by omega)) dL_law_675 (lv_topi (fun zi66 ez67 => ?_))
    refine lv_aload_n hx hb dL_law_676 rfl (lv_at hl 0 rfl) ?_
    refine lv_iload_n hx hb dL_law_677 rfl (lv_at hl 3 rfl) ?_
    refine lv_iconst (v := 2) hx hb dL_law_678 (by decide) ?_
    refine lv_iadd hx hb dL_law_679 (lv_topi (fun zi68 ea69 => ?_))
    have bd70 : (2 : Int) ≤ zi68.toInt ∧ zi68.toInt ≤ 3068 := b_iadd ea69 hz3 bc_2 (by decide) (by decide) (by decide) (by decide)
    have qe71 : zi68.toInt = (zi3 : Int32).toInt + (2 : Int32).toInt := e_iadd ea69 hz3 bc_2 (by decide) (by decide)
    have qe72 : zi68.toInt = zi3.toInt + 2 := by have ha : (2 : Int32).toInt = 2 := (by decide); rw [ha] at qe71; exact qe71
    refine va_sld hx hb hX hbl hbA hS (vp_bv (by omega) (by omega)) dL_law_680 (lv_topi (fun zi73 ez74 => ?_))
    refine lv_if_eq (tgt := 688) hx hb dL_law_681 (by decide) (fun cn75 => ?_) (fun cn75 => ?_)
    · skip
      have bd76 : (0 : Int) ≤ zi73.toInt ∧ zi73.toInt ≤ 0 := r_eq_x cn75 (b_all zi73) bc_0 (by decide) (by decide)
      refine lv_iconst (v := 0) hx hb dL_law_688 (by decide) ?_
      have pd77 : LW hp56 qa900 := LW_fr ok1 km (show Fr [3003, 3004, 5003, 5004, 5005, 5006, 5007, 8000, 8001, 8002, 8003, 8004, 8005, 8006, 8008, 27000, 35000, 36000, 40000, 41000, 42000] K hp0 hp56 from (Fr.tr (Fr.rf) F58 (by decide))) (by decide) pdLW
      refine kq_i hw hS hA (va_runV (As := [.int zi66, .int 0]) (rest := []) ⟨hx, hb, hml, hown, hT⟩ (cX12_order_0 l G cy ev K ln Ls hW _ hp56 ok57 qa900 zi66 0 km (b_wid2 bc_0 (by decide) (by decide)) pd77) (cwV 2 hT (good_V tb_1875 tb_1872 tb_1873 tb_1874 tb_122) rfl rfl rfl (by decide +kernel) ⟨Nat.le_of_ble_eq_true rfl, Nat.le_of_ble_eq_true rfl⟩) (pool_preV (ci := 12) hK hE hS hA hw hW km (by decide) rfl) rfl rfl hl.1 rfl (lv_room (Nat.le_of_ble_eq_true rfl)) dL_law_689 ⟨(show (400 + (gn - g0)) + 0 ≤ 600000 from by omega), (show (100000 + 14 * (gn - g0)) + 0 ≤ 7302250 from by omega)⟩) (fun zi82 hp78 H locs hq81 hw hS => ?_)
      obtain ⟨ok79, F80⟩ := hq81
      have hw : PW G cy K ln Ls A hp78 H := hw
      refine lv_pop hx hb dL_law_692 rfl ?_
      refine lv_goto (tgt := 1044) hx hb dL_law_693 (by decide) ?_
      have pd83 : NSx K ln hp78 gn := NSx_fr ok1  (show Fr [3003, 3004, 5003, 5004, 5005, 5006, 5007, 8000, 8001, 8002, 8003, 8004, 8005, 8006, 8008, 13048, 13051, 13057, 27000, 35000, 36000, 40000, 41000, 42000, 90000, 91000, 93000, 96000, 97000] K hp0 hp78 from (Fr.tr (Fr.tr (Fr.rf) F58 (by decide)) F80 (by decide))) (by decide) pdNS
      have pd84 : LW hp78 qa900 := LW_fr ok57 km (show Fr [13048, 13051, 13057, 90000, 91000, 93000, 96000, 97000] K hp56 hp78 from (Fr.tr (Fr.rf) F80 (by decide))) (by decide) pd77
      exact kk K ln Ls gn hp78 _ _ ls hW ok79 pd83 (by omega) pd84 km kx (lv_sub hl [0, 1, 2, 3] rfl) hw hS
    · skip
      have tf85 : (zi73 : Int32).toInt ≠ (0 : Int32).toInt := fun e => cn75 (Int32.toInt_inj.mp e)
      have := toi bc_0
      refine lv_iconst (v := 1) hx hb dL_law_684 (by decide) ?_
      refine lv_goto (tgt := 689) hx hb dL_law_685 (by decide) ?_
      have pd86 : LW hp56 qa900 := LW_fr ok1 km (show Fr [3003, 3004, 5003, 5004, 5005, 5006, 5007, 8000, 8001, 8002, 8003, 8004, 8005, 8006, 8008, 27000, 35000, 36000, 40000, 41000, 42000] K hp0 hp56 from (Fr.tr (Fr.rf) F58 (by decide))) (by decide) pdLW
      refine kq_i hw hS hA (va_runV (As := [.int zi66, .int 1]) (rest := []) ⟨hx, hb, hml, hown, hT⟩ (cX12_order_0 l G cy ev K ln Ls hW _ hp56 ok57 qa900 zi66 1 km (b_wid2 bc_1 (by decide) (by decide)) pd86) (cwV 2 hT (good_V tb_1875 tb_1872 tb_1873 tb_1874 tb_122) rfl rfl rfl (by decide +kernel) ⟨Nat.le_of_ble_eq_true rfl, Nat.le_of_ble_eq_true rfl⟩) (pool_preV (ci := 12) hK hE hS hA hw hW km (by decide) rfl) rfl rfl hl.1 rfl (lv_room (Nat.le_of_ble_eq_true rfl)) dL_law_689 ⟨(show (400 + (gn - g0)) + 0 ≤ 600000 from by omega), (show (100000 + 14 * (gn - g0)) + 0 ≤ 7302250 from by omega)⟩) (fun zi91 hp87 H locs hq90 hw hS => ?_)
      obtain ⟨ok88, F89⟩ := hq90
      have hw : PW G cy K ln Ls A hp87 H := hw
      refine lv_pop hx hb dL_law_692 rfl ?_
      refine lv_goto (tgt := 1044) hx hb dL_law_693 (by decide) ?_
      have pd92 : NSx K ln hp87 gn := NSx_fr ok1  (show Fr [3003, 3004, 5003, 5004, 5005, 5006, 5007, 8000, 8001, 8002, 8003, 8004, 8005, 8006, 8008, 13048, 13051, 13057, 27000, 35000, 36000, 40000, 41000, 42000, 90000, 91000, 93000, 96000, 97000] K hp0 hp87 from (Fr.tr (Fr.tr (Fr.rf) F58 (by decide)) F89 (by decide))) (by decide) pdNS
      have pd93 : LW hp87 qa900 := LW_fr ok57 km (show Fr [13048, 13051, 13057, 90000, 91000, 93000, 96000, 97000] K hp56 hp87 from (Fr.tr (Fr.rf) F89 (by decide))) (by decide) pd86
      exact kk K ln Ls gn hp87 _ _ ls hW ok88 pd92 (by omega) pd93 km kx (lv_sub hl [0, 1, 2, 3] rfl) hw hS

set_option maxRecDepth 100000 in
set_option maxHeartbeats 8000000 in
theorem law_c_18 {p : Program} {e : Env} {s : State} {m : MethodId} {below : List Frame} {meth : Method} {c : Code} (l : Launch) {b L : Nat} {xs : Nat → Int32} (hL : L ≤ 3072) (hx : p.tables.exec = Jvm.exec) (hb : c.code = code) (hml : c.maxLocals = 4) (hown : s.vm.findClass "LieClockLaw" = some m.cls) (hT : ∀ w ∈ TB, w.before #[Value.ref b] s = true) (hX : va_X b L xs s s.heap) (hbl : b < s.heap.size) (G : va_G) (cy : Nat → ClassId) (ev : Ew) (hK : KK G cy s) (A : Nat → Prop) (hA : ∀ q : Nat, s.heap.size ≤ q → A q) (hbA : ¬ A b) (hE : EW ev A s s.heap) (K0 ln0 : Nat → Nat) (Ls0 : List Nat) (hW0 : SW K0 ln0 Ls0) (hp0 : Nat → Nat → Value) (ok0 : Ok K0 hp0) (qa900 qa901 : Nat) (km : K0 qa900 = 13) (kx : K0 qa901 = 12) (g0 gn0 : Nat) (hg0 : 256 ≤ g0 ∧ g0 ≤ 131072) (hga0 : g0 ≤ gn0) (pdNS : NSx K0 ln0 hp0 gn0) (pdLW : LW hp0 qa900) (zi3 : Int32) (hz3 : (0 : Int) ≤ zi3.toInt ∧ zi3.toInt ≤ 3066) (hz6 : zi3.toInt + 6 ≤ (L : Nat)) {Q : State → Prop} (kk : ∀ (K ln : Nat → Nat) (Ls : List Nat) (gn : Nat) (hp : Nat → Nat → Value) (H : Heap) (locs : List Loc) (ls : Array Slot), SW K ln Ls → Ok K hp → NSx K ln hp gn → g0 ≤ gn → LW hp qa900 → K qa900 = 13 → K qa901 = 12 → lv_has ls 4 [(0, .ref b), (1, .ref qa901), (2, .ref qa900), (3, .int zi3)] → PW G cy K ln Ls A hp H → va_S A s.heap H locs → W p l e room_1 s m #[Value.ref b] below meth c H locs (400 + (gn - g0)) (100000 + 14 * (gn - g0)) Q (F0 m 1044 ls [])) (H : Heap) (locs : List Loc) (ls : Array Slot) (hl : lv_has ls 4 [(0, .ref b), (1, .ref qa901), (2, .ref qa900), (3, .int zi3)]) (hw : PW G cy K0 ln0 Ls0 A hp0 H) (hS : va_S A s.heap H locs) : W p l e room_1 s m #[Value.ref b] below meth c H locs (400 + (gn0 - g0)) (100000 + 14 * (gn0 - g0)) Q (F0 m 696 ls []) := by
  obtain ⟨K, ln, Ls, gn, hW, ok1, hga, hge, km, kx, pdNS, hw⟩ : ∃ (K ln : Nat → Nat) (Ls : List Nat) (gn : Nat), SW K ln Ls ∧ Ok K hp0 ∧ g0 ≤ gn ∧ gn = gn0 ∧ K qa900 = 13 ∧ K qa901 = 12 ∧ NSx K ln hp0 gn ∧ PW G cy K ln Ls A hp0 H := ⟨K0, ln0, Ls0, gn0, hW0, ok0, hga0, rfl, km, kx, pdNS, hw⟩
  have hgn := NSx.bd pdNS
  refine W.widen (k := 400 + (gn - g0)) (n := 100000 + 14 * (gn - g0)) (by omega) (by omega) ?_
  refine lv_aload_n hx hb dL_law_696 rfl (lv_at hl 1 rfl) ?_
  refine lv_aload_n hx hb dL_law_697 rfl (lv_at hl 0 rfl) ?_
  refine lv_iload_n hx hb dL_law_698 rfl (lv_at hl 3 rfl) ?_
  refine lv_iconst (v := 1) hx hb dL_law_699 (by decide) ?_
  refine lv_iadd hx hb dL_law_700 (lv_topi (fun zi1 ea2 => ?_))
  have bd3 : (1 : Int) ≤ zi1.toInt ∧ zi1.toInt ≤ 3067 := b_iadd ea2 hz3 bc_1 (by decide) (by decide) (by decide) (by decide)
  have qe4 : zi1.toInt = (zi3 : Int32).toInt + (1 : Int32).toInt := e_iadd ea2 hz3 bc_1 (by decide) (by decide)
  have qe5 : zi1.toInt = zi3.toInt + 1 := by have ha : (1 : Int32).toInt = 1 := (by decide); rw [ha] at qe4; exact qe4
  refine va_sld hx hb hX hbl hbA hS (vp_bv (by omega) (by omega)) dL_law_701 (lv_topi (fun zi6 ez7 => ?_))
  refine lv_aload_n hx hb dL_law_702 rfl (lv_at hl 0 rfl) ?_
  refine lv_iload_n hx hb dL_law_703 rfl (lv_at hl 3 rfl) ?_
  refine lv_iconst (v := 2) hx hb dL_law_704 (by decide) ?_
  refine lv_iadd hx hb dL_law_705 (lv_topi (fun zi8 ea9 => ?_))
  have bd10 : (2 : Int) ≤ zi8.toInt ∧ zi8.toInt ≤ 3068 := b_iadd ea9 hz3 bc_2 (by decide) (by decide) (by decide) (by decide)
  have qe11 : zi8.toInt = (zi3 : Int32).toInt + (2 : Int32).toInt := e_iadd ea9 hz3 bc_2 (by decide) (by decide)
  have qe12 : zi8.toInt = zi3.toInt + 2 := by have ha : (2 : Int32).toInt = 2 := (by decide); rw [ha] at qe11; exact qe11
  refine va_sld hx hb hX hbl hbA hS (vp_bv (by omega) (by omega)) dL_law_706 (lv_topi (fun zi13 ez14 => ?_))
  refine lv_if_eq (tgt := 714) hx hb dL_law_707 (by decide) (fun cn15 => ?_) (fun cn15 => ?_)
  · skip
    have bd16 : (0 : Int) ≤ zi13.toInt ∧ zi13.toInt ≤ 0 := r_eq_x cn15 (b_all zi13) bc_0 (by decide) (by decide)
    refine lv_iconst (v := 0) hx hb dL_law_714 (by decide) ?_
    refine lv_aload_n hx hb dL_law_715 rfl (lv_at hl 0 rfl) ?_
    refine lv_iload_n hx hb dL_law_716 rfl (lv_at hl 3 rfl) ?_
    refine lv_iconst (v := 3) hx hb dL_law_717 (by decide) ?_
    refine lv_iadd hx hb dL_law_718 (lv_topi (fun zi17 ea18 => ?_))
    have bd19 : (3 : Int) ≤ zi17.toInt ∧ zi17.toInt ≤ 3069 := b_iadd ea18 hz3 bc_3 (by decide) (by decide) (by decide) (by decide)
    have qe20 : zi17.toInt = (zi3 : Int32).toInt + (3 : Int32).toInt := e_iadd ea18 hz3 bc_3 (by decide) (by decide)
    have qe21 : zi17.toInt = zi3.toInt + 3 := by have ha : (3 : Int32).toInt = 3 := (by decide); rw [ha] at qe20; exact qe20
    refine va_sld hx hb hX hbl hbA hS (vp_bv (by omega) (by omega)) dL_law_719 (lv_topi (fun zi22 ez23 => ?_))
    refine kq_i hw hS hA (va_runV (As := [.int zi6, .int 0, .int zi22]) (rest := []) ⟨hx, hb, hml, hown, hT⟩ (cX11_orderAt_0 l G cy ev K ln Ls hW _ hp0 ok1 qa901 zi6 0 zi22 kx (b_wid2 bc_0 (by decide) (by decide))) (cwV 3 hT (good_V tb_1239 tb_1236 tb_1237 tb_1238 tb_105) rfl rfl rfl (by decide +kernel) ⟨Nat.le_of_ble_eq_true rfl, Nat.le_of_ble_eq_true rfl⟩) (pool_preV (ci := 11) hK hE hS hA hw hW kx (by decide) rfl) rfl rfl hl.1 rfl (lv_room (Nat.le_of_ble_eq_true rfl)) dL_law_720 ⟨(show (400 + (gn - g0)) + 0 ≤ 600000 from by omega), (show (100000 + 14 * (gn - g0)) + 0 ≤ 7302250 from by omega)⟩) (fun zi28 hp24 H locs hq27 hw hS => ?_)
    obtain ⟨ok25, F26⟩ := hq27
    have hw : PW G cy K ln Ls A hp24 H := hw
    refine lv_pop hx hb dL_law_723 rfl ?_
    refine lv_aload_n hx hb dL_law_724 rfl (lv_at hl 2 rfl) ?_
    refine lv_aload_n hx hb dL_law_725 rfl (lv_at hl 0 rfl) ?_
    refine lv_iload_n hx hb dL_law_726 rfl (lv_at hl 3 rfl) ?_
    refine lv_iconst (v := 1) hx hb dL_law_727 (by decide) ?_
    refine lv_iadd hx hb dL_law_728 (lv_topi (fun zi29 ea30 => ?_))
    have bd31 : (1 : Int) ≤ zi29.toInt ∧ zi29.toInt ≤ 3067 := b_iadd ea30 hz3 bc_1 (by decide) (by decide) (by decide) (by decide)
    have qe32 : zi29.toInt = (zi3 : Int32).toInt + (1 : Int32).toInt := e_iadd ea30 hz3 bc_1 (by decide) (by decide)
    have qe33 : zi29.toInt = zi3.toInt + 1 := by have ha : (1 : Int32).toInt = 1 := (by decide); rw [ha] at qe32; exact qe32
    refine va_sld hx hb hX hbl hbA hS (vp_bv (by omega) (by omega)) dL_law_729 (lv_topi (fun zi34 ez35 => ?_))
    refine lv_aload_n hx hb dL_law_730 rfl (lv_at hl 0 rfl) ?_
    refine lv_iload_n hx hb dL_law_731 rfl (lv_at hl 3 rfl) ?_
    refine lv_iconst (v := 2) hx hb dL_law_732 (by decide) ?_
    refine lv_iadd hx hb dL_law_733 (lv_topi (fun zi36 ea37 => ?_))
    have bd38 : (2 : Int) ≤ zi36.toInt ∧ zi36.toInt ≤ 3068 := b_iadd ea37 hz3 bc_2 (by decide) (by decide) (by decide) (by decide)
    have qe39 : zi36.toInt = (zi3 : Int32).toInt + (2 : Int32).toInt := e_iadd ea37 hz3 bc_2 (by decide) (by decide)
    have qe40 : zi36.toInt = zi3.toInt + 2 := by have ha : (2 : Int32).toInt = 2 := (by decide); rw [ha] at qe39; exact qe39
    refine va_sld hx hb hX hbl hbA hS (vp_bv (by omega) (by omega)) dL_law_734 (lv_topi (fun zi41 ez42 => ?_))
    refine lv_if_eq (tgt := 742) hx hb dL_law_735 (by decide) (fun cn43 => ?_) (fun cn43 => ?_)
    · skip
      have bd44 : (0 : Int) ≤ zi41.toInt ∧ zi41.toInt ≤ 0 := r_eq_x cn43 (b_all zi41) bc_0 (by decide) (by decide)
      refine lv_iconst (v := 0) hx hb dL_law_742 (by decide) ?_
      refine lv_aload_n hx hb dL_law_743 rfl (lv_at hl 0 rfl) ?_
      refine lv_iload_n hx hb dL_law_744 rfl (lv_at hl 3 rfl) ?_
      refine lv_iconst (v := 3) hx hb dL_law_745 (by decide) ?_
      refine lv_iadd hx hb dL_law_746 (lv_topi (fun zi45 ea46 => ?_))
      have bd47 : (3 : Int) ≤ zi45.toInt ∧ zi45.toInt ≤ 3069 := b_iadd ea46 hz3 bc_3 (by decide) (by decide) (by decide) (by decide)
      have qe48 : zi45.toInt = (zi3 : Int32).toInt + (3 : Int32).toInt := e_iadd ea46 hz3 bc_3 (by decide) (by decide)
      have qe49 : zi45.toInt = zi3.toInt + 3 := by have ha : (3 : Int32).toInt = 3 := (by decide); rw [ha] at qe48; exact qe48
      refine va_sld hx hb hX hbl hbA hS (vp_bv (by omega) (by omega)) dL_law_747 (lv_topi (fun zi50 ez51 => ?_))
      have pd52 : LW hp24 qa900 := LW_fr ok1 km (show Fr [3003, 3004, 5003, 5004, 5005, 5006, 5007, 8000, 8001, 8002, 8003, 8004, 8005, 8006, 8008, 27000, 35000, 36000, 40000, 41000, 42000] K hp0 hp24 from (Fr.tr (Fr.rf) F26 (by decide))) (by decide) pdLW
      refine kq_i hw hS hA (va_runV (As := [.int zi34, .int 0, .int zi50]) (rest := []) ⟨hx, hb, hml, hown, hT⟩ (cX12_orderAt_0 l G cy ev K ln Ls hW _ hp24 ok25 qa900 zi34 0 zi50 km (b_wid2 bc_0 (by decide) (by decide)) pd52) (cwV 3 hT (good_V tb_1895 tb_1892 tb_1893 tb_1894 tb_122) rfl rfl rfl (by decide +kernel) ⟨Nat.le_of_ble_eq_true rfl, Nat.le_of_ble_eq_true rfl⟩) (pool_preV (ci := 12) hK hE hS hA hw hW km (by decide) rfl) rfl rfl hl.1 rfl (lv_room (Nat.le_of_ble_eq_true rfl)) dL_law_748 ⟨(show (400 + (gn - g0)) + 0 ≤ 600000 from by omega), (show (100000 + 14 * (gn - g0)) + 0 ≤ 7302250 from by omega)⟩) (fun zi57 hp53 H locs hq56 hw hS => ?_)
      obtain ⟨ok54, F55⟩ := hq56
      have hw : PW G cy K ln Ls A hp53 H := hw
      refine lv_pop hx hb dL_law_751 rfl ?_
      refine lv_goto (tgt := 1044) hx hb dL_law_752 (by decide) ?_
      have pd58 : NSx K ln hp53 gn := NSx_fr ok1  (show Fr [3003, 3004, 5003, 5004, 5005, 5006, 5007, 8000, 8001, 8002, 8003, 8004, 8005, 8006, 8008, 13048, 13051, 13057, 27000, 35000, 36000, 40000, 41000, 42000, 90000, 91000, 93000, 96000, 97000] K hp0 hp53 from (Fr.tr (Fr.tr (Fr.rf) F26 (by decide)) F55 (by decide))) (by decide) pdNS
      have pd59 : LW hp53 qa900 := LW_fr ok25 km (show Fr [13048, 13051, 13057, 90000, 91000, 93000, 96000, 97000] K hp24 hp53 from (Fr.tr (Fr.rf) F55 (by decide))) (by decide) pd52
      exact kk K ln Ls gn hp53 _ _ ls hW ok54 pd58 (by omega) pd59 km kx (lv_sub hl [0, 1, 2, 3] rfl) hw hS
    · skip
      have tf60 : (zi41 : Int32).toInt ≠ (0 : Int32).toInt := fun e => cn43 (Int32.toInt_inj.mp e)
      have := toi bc_0
      refine lv_iconst (v := 1) hx hb dL_law_738 (by decide) ?_
      refine lv_goto (tgt := 743) hx hb dL_law_739 (by decide) ?_
      refine lv_aload_n hx hb dL_law_743 rfl (lv_at hl 0 rfl) ?_
      refine lv_iload_n hx hb dL_law_744 rfl (lv_at hl 3 rfl) ?_
      refine lv_iconst (v := 3) hx hb dL_law_745 (by decide) ?_
      refine lv_iadd hx hb dL_law_746 (lv_topi (fun zi61 ea62 => ?_))
      have bd63 : (3 : Int) ≤ zi61.toInt ∧ zi61.toInt ≤ 3069 := b_iadd ea62 hz3 bc_3 (by decide) (by decide) (by decide) (by decide)
      have qe64 : zi61.toInt = (zi3 : Int32).toInt + (3 : Int32).toInt := e_iadd ea62 hz3 bc_3 (by decide) (by decide)
      have qe65 : zi61.toInt = zi3.toInt + 3 := by have ha : (3 : Int32).toInt = 3 := (by decide); rw [ha] at qe64; exact qe64
      refine va_sld hx hb hX hbl hbA hS (vp_bv (by omega) (by omega)) dL_law_747 (lv_topi (fun zi66 ez67 => ?_))
      have pd68 : LW hp24 qa900 := LW_fr ok1 km (show Fr [3003, 3004, 5003, 5004, 5005, 5006, 5007, 8000, 8001, 8002, 8003, 8004, 8005, 8006, 8008, 27000, 35000, 36000, 40000, 41000, 42000] K hp0 hp24 from (Fr.tr (Fr.rf) F26 (by decide))) (by decide) pdLW
      refine kq_i hw hS hA (va_runV (As := [.int zi34, .int 1, .int zi66]) (rest := []) ⟨hx, hb, hml, hown, hT⟩ (cX12_orderAt_0 l G cy ev K ln Ls hW _ hp24 ok25 qa900 zi34 1 zi66 km (b_wid2 bc_1 (by decide) (by decide)) pd68) (cwV 3 hT (good_V tb_1895 tb_1892 tb_1893 tb_1894 tb_122) rfl rfl rfl (by decide +kernel) ⟨Nat.le_of_ble_eq_true rfl, Nat.le_of_ble_eq_true rfl⟩) (pool_preV (ci := 12) hK hE hS hA hw hW km (by decide) rfl) rfl rfl hl.1 rfl (lv_room (Nat.le_of_ble_eq_true rfl)) dL_law_748 ⟨(show (400 + (gn - g0)) + 0 ≤ 600000 from by omega), (show (100000 + 14 * (gn - g0)) + 0 ≤ 7302250 from by omega)⟩) (fun zi73 hp69 H locs hq72 hw hS => ?_)
      obtain ⟨ok70, F71⟩ := hq72
      have hw : PW G cy K ln Ls A hp69 H := hw
      refine lv_pop hx hb dL_law_751 rfl ?_
      refine lv_goto (tgt := 1044) hx hb dL_law_752 (by decide) ?_
      have pd74 : NSx K ln hp69 gn := NSx_fr ok1  (show Fr [3003, 3004, 5003, 5004, 5005, 5006, 5007, 8000, 8001, 8002, 8003, 8004, 8005, 8006, 8008, 13048, 13051, 13057, 27000, 35000, 36000, 40000, 41000, 42000, 90000, 91000, 93000, 96000, 97000] K hp0 hp69 from (Fr.tr (Fr.tr (Fr.rf) F26 (by decide)) F71 (by decide))) (by decide) pdNS
      have pd75 : LW hp69 qa900 := LW_fr ok25 km (show Fr [13048, 13051, 13057, 90000, 91000, 93000, 96000, 97000] K hp24 hp69 from (Fr.tr (Fr.rf) F71 (by decide))) (by decide) pd68
      exact kk K ln Ls gn hp69 _ _ ls hW ok70 pd74 (by omega) pd75 km kx (lv_sub hl [0, 1, 2, 3] rfl) hw hS
  · skip
    have tf76 : (zi13 : Int32).toInt ≠ (0 : Int32).toInt := fun e => cn15 (Int32.toInt_inj.mp e)
    have := toi bc_0
    refine lv_iconst (v := 1) hx hb dL_law_710 (by decide) ?_
    refine lv_goto (tgt := 715) hx hb dL_law_711 (by decide) ?_
    refine lv_aload_n hx hb dL_law_715 rfl (lv_at hl 0 rfl) ?_
    refine lv_iload_n hx hb dL_law_716 rfl (lv_at hl 3 rfl) ?_
    refine lv_iconst (v := 3) hx hb dL_law_717 (by decide) ?_
    refine lv_iadd hx hb dL_law_718 (lv_topi (fun zi77 ea78 => ?_))
    have bd79 : (3 : Int) ≤ zi77.toInt ∧ zi77.toInt ≤ 3069 := b_iadd ea78 hz3 bc_3 (by decide) (by decide) (by decide) (by decide)
    have qe80 : zi77.toInt = (zi3 : Int32).toInt + (3 : Int32).toInt := e_iadd ea78 hz3 bc_3 (by decide) (by decide)
    have qe81 : zi77.toInt = zi3.toInt + 3 := by have ha : (3 : Int32).toInt = 3 := (by decide); rw [ha] at qe80; exact qe80
    refine va_sld hx hb hX hbl hbA hS (vp_bv (by omega) (by omega)) dL_law_719 (lv_topi (fun zi82 ez83 => ?_))
    refine kq_i hw hS hA (va_runV (As := [.int zi6, .int 1, .int zi82]) (rest := []) ⟨hx, hb, hml, hown, hT⟩ (cX11_orderAt_0 l G cy ev K ln Ls hW _ hp0 ok1 qa901 zi6 1 zi82 kx (b_wid2 bc_1 (by decide) (by decide))) (cwV 3 hT (good_V tb_1239 tb_1236 tb_1237 tb_1238 tb_105) rfl rfl rfl (by decide +kernel) ⟨Nat.le_of_ble_eq_true rfl, Nat.le_of_ble_eq_true rfl⟩) (pool_preV (ci := 11) hK hE hS hA hw hW kx (by decide) rfl) rfl rfl hl.1 rfl (lv_room (Nat.le_of_ble_eq_true rfl)) dL_law_720 ⟨(show (400 + (gn - g0)) + 0 ≤ 600000 from by omega), (show (100000 + 14 * (gn - g0)) + 0 ≤ 7302250 from by omega)⟩) (fun zi88 hp84 H locs hq87 hw hS => ?_)
    obtain ⟨ok85, F86⟩ := hq87
    have hw : PW G cy K ln Ls A hp84 H := hw
    refine lv_pop hx hb dL_law_723 rfl ?_
    refine lv_aload_n hx hb dL_law_724 rfl (lv_at hl 2 rfl) ?_
    refine lv_aload_n hx hb dL_law_725 rfl (lv_at hl 0 rfl) ?_
    refine lv_iload_n hx hb dL_law_726 rfl (lv_at hl 3 rfl) ?_
    refine lv_iconst (v := 1) hx hb dL_law_727 (by decide) ?_
    refine lv_iadd hx hb dL_law_728 (lv_topi (fun zi89 ea90 => ?_))
    have bd91 : (1 : Int) ≤ zi89.toInt ∧ zi89.toInt ≤ 3067 := b_iadd ea90 hz3 bc_1 (by decide) (by decide) (by decide) (by decide)
    have qe92 : zi89.toInt = (zi3 : Int32).toInt + (1 : Int32).toInt := e_iadd ea90 hz3 bc_1 (by decide) (by decide)
    have qe93 : zi89.toInt = zi3.toInt + 1 := by have ha : (1 : Int32).toInt = 1 := (by decide); rw [ha] at qe92; exact qe92
    refine va_sld hx hb hX hbl hbA hS (vp_bv (by omega) (by omega)) dL_law_729 (lv_topi (fun zi94 ez95 => ?_))
    refine lv_aload_n hx hb dL_law_730 rfl (lv_at hl 0 rfl) ?_
    refine lv_iload_n hx hb dL_law_731 rfl (lv_at hl 3 rfl) ?_
    refine lv_iconst (v := 2) hx hb dL_law_732 (by decide) ?_
    refine lv_iadd hx hb dL_law_733 (lv_topi (fun zi96 ea97 => ?_))
    have bd98 : (2 : Int) ≤ zi96.toInt ∧ zi96.toInt ≤ 3068 := b_iadd ea97 hz3 bc_2 (by decide) (by decide) (by decide) (by decide)
    have qe99 : zi96.toInt = (zi3 : Int32).toInt + (2 : Int32).toInt := e_iadd ea97 hz3 bc_2 (by decide) (by decide)
    have qe100 : zi96.toInt = zi3.toInt + 2 := by have ha : (2 : Int32).toInt = 2 := (by decide); rw [ha] at qe99; exact qe99
    refine va_sld hx hb hX hbl hbA hS (vp_bv (by omega) (by omega)) dL_law_734 (lv_topi (fun zi101 ez102 => ?_))
    refine lv_if_eq (tgt := 742) hx hb dL_law_735 (by decide) (fun cn103 => ?_) (fun cn103 => ?_)
    · skip
      have bd104 : (0 : Int) ≤ zi101.toInt ∧ zi101.toInt ≤ 0 := r_eq_x cn103 (b_all zi101) bc_0 (by decide) (by decide)
      refine lv_iconst (v := 0) hx hb dL_law_742 (by decide) ?_
      refine lv_aload_n hx hb dL_law_743 rfl (lv_at hl 0 rfl) ?_
      refine lv_iload_n hx hb dL_law_744 rfl (lv_at hl 3 rfl) ?_
      refine lv_iconst (v := 3) hx hb dL_law_745 (by decide) ?_
      refine lv_iadd hx hb dL_law_746 (lv_topi (fun zi105 ea106 => ?_))
      have bd107 : (3 : Int) ≤ zi105.toInt ∧ zi105.toInt ≤ 3069 := b_iadd ea106 hz3 bc_3 (by decide) (by decide) (by decide) (by decide)
      have qe108 : zi105.toInt = (zi3 : Int32).toInt + (3 : Int32).toInt := e_iadd ea106 hz3 bc_3 (by decide) (by decide)
      have qe109 : zi105.toInt = zi3.toInt + 3 := by have ha : (3 : Int32).toInt = 3 := (by decide); rw [ha] at qe108; exact qe108
      refine va_sld hx hb hX hbl hbA hS (vp_bv (by omega) (by omega)) dL_law_747 (lv_topi (fun zi110 ez111 => ?_))
      have pd112 : LW hp84 qa900 := LW_fr ok1 km (show Fr [3003, 3004, 5003, 5004, 5005, 5006, 5007, 8000, 8001, 8002, 8003, 8004, 8005, 8006, 8008, 27000, 35000, 36000, 40000, 41000, 42000] K hp0 hp84 from (Fr.tr (Fr.rf) F86 (by decide))) (by decide) pdLW
      refine kq_i hw hS hA (va_runV (As := [.int zi94, .int 0, .int zi110]) (rest := []) ⟨hx, hb, hml, hown, hT⟩ (cX12_orderAt_0 l G cy ev K ln Ls hW _ hp84 ok85 qa900 zi94 0 zi110 km (b_wid2 bc_0 (by decide) (by decide)) pd112) (cwV 3 hT (good_V tb_1895 tb_1892 tb_1893 tb_1894 tb_122) rfl rfl rfl (by decide +kernel) ⟨Nat.le_of_ble_eq_true rfl, Nat.le_of_ble_eq_true rfl⟩) (pool_preV (ci := 12) hK hE hS hA hw hW km (by decide) rfl) rfl rfl hl.1 rfl (lv_room (Nat.le_of_ble_eq_true rfl)) dL_law_748 ⟨(show (400 + (gn - g0)) + 0 ≤ 600000 from by omega), (show (100000 + 14 * (gn - g0)) + 0 ≤ 7302250 from by omega)⟩) (fun zi117 hp113 H locs hq116 hw hS => ?_)
      obtain ⟨ok114, F115⟩ := hq116
      have hw : PW G cy K ln Ls A hp113 H := hw
      refine lv_pop hx hb dL_law_751 rfl ?_
      refine lv_goto (tgt := 1044) hx hb dL_law_752 (by decide) ?_
      have pd118 : NSx K ln hp113 gn := NSx_fr ok1  (show Fr [3003, 3004, 5003, 5004, 5005, 5006, 5007, 8000, 8001, 8002, 8003, 8004, 8005, 8006, 8008, 13048, 13051, 13057, 27000, 35000, 36000, 40000, 41000, 42000, 90000, 91000, 93000, 96000, 97000] K hp0 hp113 from (Fr.tr (Fr.tr (Fr.rf) F86 (by decide)) F115 (by decide))) (by decide) pdNS
      have pd119 : LW hp113 qa900 := LW_fr ok85 km (show Fr [13048, 13051, 13057, 90000, 91000, 93000, 96000, 97000] K hp84 hp113 from (Fr.tr (Fr.rf) F115 (by decide))) (by decide) pd112
      exact kk K ln Ls gn hp113 _ _ ls hW ok114 pd118 (by omega) pd119 km kx (lv_sub hl [0, 1, 2, 3] rfl) hw hS
    · skip
      have tf120 : (zi101 : Int32).toInt ≠ (0 : Int32).toInt := fun e => cn103 (Int32.toInt_inj.mp e)
      have := toi bc_0
      refine lv_iconst (v := 1) hx hb dL_law_738 (by decide) ?_
      refine lv_goto (tgt := 743) hx hb dL_law_739 (by decide) ?_
      refine lv_aload_n hx hb dL_law_743 rfl (lv_at hl 0 rfl) ?_
      refine lv_iload_n hx hb dL_law_744 rfl (lv_at hl 3 rfl) ?_
      refine lv_iconst (v := 3) hx hb dL_law_745 (by decide) ?_
      refine lv_iadd hx hb dL_law_746 (lv_topi (fun zi121 ea122 => ?_))
      have bd123 : (3 : Int) ≤ zi121.toInt ∧ zi121.toInt ≤ 3069 := b_iadd ea122 hz3 bc_3 (by decide) (by decide) (by decide) (by decide)
      have qe124 : zi121.toInt = (zi3 : Int32).toInt + (3 : Int32).toInt := e_iadd ea122 hz3 bc_3 (by decide) (by decide)
      have qe125 : zi121.toInt = zi3.toInt + 3 := by have ha : (3 : Int32).toInt = 3 := (by decide); rw [ha] at qe124; exact qe124
      refine va_sld hx hb hX hbl hbA hS (vp_bv (by omega) (by omega)) dL_law_747 (lv_topi (fun zi126 ez127 => ?_))
      have pd128 : LW hp84 qa900 := LW_fr ok1 km (show Fr [3003, 3004, 5003, 5004, 5005, 5006, 5007, 8000, 8001, 8002, 8003, 8004, 8005, 8006, 8008, 27000, 35000, 36000, 40000, 41000, 42000] K hp0 hp84 from (Fr.tr (Fr.rf) F86 (by decide))) (by decide) pdLW
      refine kq_i hw hS hA (va_runV (As := [.int zi94, .int 1, .int zi126]) (rest := []) ⟨hx, hb, hml, hown, hT⟩ (cX12_orderAt_0 l G cy ev K ln Ls hW _ hp84 ok85 qa900 zi94 1 zi126 km (b_wid2 bc_1 (by decide) (by decide)) pd128) (cwV 3 hT (good_V tb_1895 tb_1892 tb_1893 tb_1894 tb_122) rfl rfl rfl (by decide +kernel) ⟨Nat.le_of_ble_eq_true rfl, Nat.le_of_ble_eq_true rfl⟩) (pool_preV (ci := 12) hK hE hS hA hw hW km (by decide) rfl) rfl rfl hl.1 rfl (lv_room (Nat.le_of_ble_eq_true rfl)) dL_law_748 ⟨(show (400 + (gn - g0)) + 0 ≤ 600000 from by omega), (show (100000 + 14 * (gn - g0)) + 0 ≤ 7302250 from by omega)⟩) (fun zi133 hp129 H locs hq132 hw hS => ?_)
      obtain ⟨ok130, F131⟩ := hq132
      have hw : PW G cy K ln Ls A hp129 H := hw
      refine lv_pop hx hb dL_law_751 rfl ?_
      refine lv_goto (tgt := 1044) hx hb dL_law_752 (by decide) ?_
      have pd134 : NSx K ln hp129 gn := NSx_fr ok1  (show Fr [3003, 3004, 5003, 5004, 5005, 5006, 5007, 8000, 8001, 8002, 8003, 8004, 8005, 8006, 8008, 13048, 13051, 13057, 27000, 35000, 36000, 40000, 41000, 42000, 90000, 91000, 93000, 96000, 97000] K hp0 hp129 from (Fr.tr (Fr.tr (Fr.rf) F86 (by decide)) F131 (by decide))) (by decide) pdNS
      have pd135 : LW hp129 qa900 := LW_fr ok85 km (show Fr [13048, 13051, 13057, 90000, 91000, 93000, 96000, 97000] K hp84 hp129 from (Fr.tr (Fr.rf) F131 (by decide))) (by decide) pd128
      exact kk K ln Ls gn hp129 _ _ ls hW ok130 pd134 (by omega) pd135 km kx (lv_sub hl [0, 1, 2, 3] rfl) hw hS

set_option maxRecDepth 100000 in
set_option maxHeartbeats 8000000 in
theorem law_c_19 {p : Program} {e : Env} {s : State} {m : MethodId} {below : List Frame} {meth : Method} {c : Code} (l : Launch) {b L : Nat} {xs : Nat → Int32} (hL : L ≤ 3072) (hx : p.tables.exec = Jvm.exec) (hb : c.code = code) (hml : c.maxLocals = 4) (hown : s.vm.findClass "LieClockLaw" = some m.cls) (hT : ∀ w ∈ TB, w.before #[Value.ref b] s = true) (hX : va_X b L xs s s.heap) (hbl : b < s.heap.size) (G : va_G) (cy : Nat → ClassId) (ev : Ew) (hK : KK G cy s) (A : Nat → Prop) (hA : ∀ q : Nat, s.heap.size ≤ q → A q) (hbA : ¬ A b) (hE : EW ev A s s.heap) (K0 ln0 : Nat → Nat) (Ls0 : List Nat) (hW0 : SW K0 ln0 Ls0) (hp0 : Nat → Nat → Value) (ok0 : Ok K0 hp0) (qa900 qa901 : Nat) (km : K0 qa900 = 13) (kx : K0 qa901 = 12) (g0 gn0 : Nat) (hg0 : 256 ≤ g0 ∧ g0 ≤ 131072) (hga0 : g0 ≤ gn0) (pdNS : NSx K0 ln0 hp0 gn0) (pdLW : LW hp0 qa900) (zi3 : Int32) (hz3 : (0 : Int) ≤ zi3.toInt ∧ zi3.toInt ≤ 3066) (hz6 : zi3.toInt + 6 ≤ (L : Nat)) {Q : State → Prop} (kk : ∀ (K ln : Nat → Nat) (Ls : List Nat) (gn : Nat) (hp : Nat → Nat → Value) (H : Heap) (locs : List Loc) (ls : Array Slot), SW K ln Ls → Ok K hp → NSx K ln hp gn → g0 ≤ gn → LW hp qa900 → K qa900 = 13 → K qa901 = 12 → lv_has ls 4 [(0, .ref b), (1, .ref qa901), (2, .ref qa900), (3, .int zi3)] → PW G cy K ln Ls A hp H → va_S A s.heap H locs → W p l e room_1 s m #[Value.ref b] below meth c H locs (400 + (gn - g0)) (100000 + 14 * (gn - g0)) Q (F0 m 1044 ls [])) (H : Heap) (locs : List Loc) (ls : Array Slot) (hl : lv_has ls 4 [(0, .ref b), (1, .ref qa901), (2, .ref qa900), (3, .int zi3)]) (hw : PW G cy K0 ln0 Ls0 A hp0 H) (hS : va_S A s.heap H locs) : W p l e room_1 s m #[Value.ref b] below meth c H locs (400 + (gn0 - g0)) (100000 + 14 * (gn0 - g0)) Q (F0 m 755 ls []) := by
  obtain ⟨K, ln, Ls, gn, hW, ok1, hga, hge, km, kx, pdNS, hw⟩ : ∃ (K ln : Nat → Nat) (Ls : List Nat) (gn : Nat), SW K ln Ls ∧ Ok K hp0 ∧ g0 ≤ gn ∧ gn = gn0 ∧ K qa900 = 13 ∧ K qa901 = 12 ∧ NSx K ln hp0 gn ∧ PW G cy K ln Ls A hp0 H := ⟨K0, ln0, Ls0, gn0, hW0, ok0, hga0, rfl, km, kx, pdNS, hw⟩
  have hgn := NSx.bd pdNS
  refine W.widen (k := 400 + (gn - g0)) (n := 100000 + 14 * (gn - g0)) (by omega) (by omega) ?_
  refine lv_aload_n hx hb dL_law_755 rfl (lv_at hl 1 rfl) ?_
  refine lv_aload_n hx hb dL_law_756 rfl (lv_at hl 0 rfl) ?_
  refine lv_iload_n hx hb dL_law_757 rfl (lv_at hl 3 rfl) ?_
  refine lv_iconst (v := 1) hx hb dL_law_758 (by decide) ?_
  refine lv_iadd hx hb dL_law_759 (lv_topi (fun zi1 ea2 => ?_))
  have bd3 : (1 : Int) ≤ zi1.toInt ∧ zi1.toInt ≤ 3067 := b_iadd ea2 hz3 bc_1 (by decide) (by decide) (by decide) (by decide)
  have qe4 : zi1.toInt = (zi3 : Int32).toInt + (1 : Int32).toInt := e_iadd ea2 hz3 bc_1 (by decide) (by decide)
  have qe5 : zi1.toInt = zi3.toInt + 1 := by have ha : (1 : Int32).toInt = 1 := (by decide); rw [ha] at qe4; exact qe4
  refine va_sld hx hb hX hbl hbA hS (vp_bv (by omega) (by omega)) dL_law_760 (lv_topi (fun zi6 ez7 => ?_))
  refine lv_aload_n hx hb dL_law_761 rfl (lv_at hl 0 rfl) ?_
  refine lv_iload_n hx hb dL_law_762 rfl (lv_at hl 3 rfl) ?_
  refine lv_iconst (v := 2) hx hb dL_law_763 (by decide) ?_
  refine lv_iadd hx hb dL_law_764 (lv_topi (fun zi8 ea9 => ?_))
  have bd10 : (2 : Int) ≤ zi8.toInt ∧ zi8.toInt ≤ 3068 := b_iadd ea9 hz3 bc_2 (by decide) (by decide) (by decide) (by decide)
  have qe11 : zi8.toInt = (zi3 : Int32).toInt + (2 : Int32).toInt := e_iadd ea9 hz3 bc_2 (by decide) (by decide)
  have qe12 : zi8.toInt = zi3.toInt + 2 := by have ha : (2 : Int32).toInt = 2 := (by decide); rw [ha] at qe11; exact qe11
  refine va_sld hx hb hX hbl hbA hS (vp_bv (by omega) (by omega)) dL_law_765 (lv_topi (fun zi13 ez14 => ?_))
  refine kq_i hw hS hA (va_runV (As := [.int zi6, .int zi13]) (rest := []) ⟨hx, hb, hml, hown, hT⟩ (cX11_never_0 l G cy ev K ln Ls hW _ hp0 ok1 qa901 zi6 zi13 kx) (cwV 2 hT (good_V tb_1243 tb_1240 tb_1241 tb_1242 tb_105) rfl rfl rfl (by decide +kernel) ⟨Nat.le_of_ble_eq_true rfl, Nat.le_of_ble_eq_true rfl⟩) (pool_preV (ci := 11) hK hE hS hA hw hW kx (by decide) rfl) rfl rfl hl.1 rfl (lv_room (Nat.le_of_ble_eq_true rfl)) dL_law_766 ⟨(show (400 + (gn - g0)) + 0 ≤ 600000 from by omega), (show (100000 + 14 * (gn - g0)) + 0 ≤ 7302250 from by omega)⟩) (fun zi19 hp15 H locs hq18 hw hS => ?_)
  obtain ⟨ok16, F17, bd20⟩ := hq18
  have hw : PW G cy K ln Ls A hp15 H := hw
  refine lv_pop hx hb dL_law_769 rfl ?_
  refine lv_aload_n hx hb dL_law_770 rfl (lv_at hl 2 rfl) ?_
  refine lv_aload_n hx hb dL_law_771 rfl (lv_at hl 0 rfl) ?_
  refine lv_iload_n hx hb dL_law_772 rfl (lv_at hl 3 rfl) ?_
  refine lv_iconst (v := 1) hx hb dL_law_773 (by decide) ?_
  refine lv_iadd hx hb dL_law_774 (lv_topi (fun zi21 ea22 => ?_))
  have bd23 : (1 : Int) ≤ zi21.toInt ∧ zi21.toInt ≤ 3067 := b_iadd ea22 hz3 bc_1 (by decide) (by decide) (by decide) (by decide)
  have qe24 : zi21.toInt = (zi3 : Int32).toInt + (1 : Int32).toInt := e_iadd ea22 hz3 bc_1 (by decide) (by decide)
  have qe25 : zi21.toInt = zi3.toInt + 1 := by have ha : (1 : Int32).toInt = 1 := (by decide); rw [ha] at qe24; exact qe24
  refine va_sld hx hb hX hbl hbA hS (vp_bv (by omega) (by omega)) dL_law_775 (lv_topi (fun zi26 ez27 => ?_))
  refine lv_aload_n hx hb dL_law_776 rfl (lv_at hl 0 rfl) ?_
  refine lv_iload_n hx hb dL_law_777 rfl (lv_at hl 3 rfl) ?_
  refine lv_iconst (v := 2) hx hb dL_law_778 (by decide) ?_
  refine lv_iadd hx hb dL_law_779 (lv_topi (fun zi28 ea29 => ?_))
  have bd30 : (2 : Int) ≤ zi28.toInt ∧ zi28.toInt ≤ 3068 := b_iadd ea29 hz3 bc_2 (by decide) (by decide) (by decide) (by decide)
  have qe31 : zi28.toInt = (zi3 : Int32).toInt + (2 : Int32).toInt := e_iadd ea29 hz3 bc_2 (by decide) (by decide)
  have qe32 : zi28.toInt = zi3.toInt + 2 := by have ha : (2 : Int32).toInt = 2 := (by decide); rw [ha] at qe31; exact qe31
  refine va_sld hx hb hX hbl hbA hS (vp_bv (by omega) (by omega)) dL_law_780 (lv_topi (fun zi33 ez34 => ?_))
  have pd35 : LW hp15 qa900 := LW_fr ok1 km (show Fr [3003, 3004, 8000, 8001, 8002, 8003, 8004, 8005, 8006, 8007, 8008, 27000, 40000, 41000, 42000] K hp0 hp15 from (Fr.tr (Fr.rf) F17 (by decide))) (by decide) pdLW
  refine kq_i hw hS hA (va_runV (As := [.int zi26, .int zi33]) (rest := []) ⟨hx, hb, hml, hown, hT⟩ (cX12_never_0 l G cy ev K ln Ls hW _ hp15 ok16 qa900 zi26 zi33 km pd35) (cwV 2 hT (good_V tb_1900 tb_1897 tb_1898 tb_1899 tb_122) rfl rfl rfl (by decide +kernel) ⟨Nat.le_of_ble_eq_true rfl, Nat.le_of_ble_eq_true rfl⟩) (pool_preV (ci := 12) hK hE hS hA hw hW km (by decide) rfl) rfl rfl hl.1 rfl (lv_room (Nat.le_of_ble_eq_true rfl)) dL_law_781 ⟨(show (400 + (gn - g0)) + 0 ≤ 600000 from by omega), (show (100000 + 14 * (gn - g0)) + 0 ≤ 7302250 from by omega)⟩) (fun zi40 hp36 H locs hq39 hw hS => ?_)
  obtain ⟨ok37, F38, bd41⟩ := hq39
  have hw : PW G cy K ln Ls A hp36 H := hw
  refine lv_pop hx hb dL_law_784 rfl ?_
  refine lv_goto (tgt := 1044) hx hb dL_law_785 (by decide) ?_
  have pd42 : NSx K ln hp36 gn := NSx_fr ok1  (show Fr [3003, 3004, 8000, 8001, 8002, 8003, 8004, 8005, 8006, 8007, 8008, 13048, 13051, 13052, 13057, 27000, 40000, 41000, 42000, 90000, 91000, 93000, 96000] K hp0 hp36 from (Fr.tr (Fr.tr (Fr.rf) F17 (by decide)) F38 (by decide))) (by decide) pdNS
  have pd43 : LW hp36 qa900 := LW_fr ok16 km (show Fr [13048, 13051, 13052, 13057, 90000, 91000, 93000, 96000] K hp15 hp36 from (Fr.tr (Fr.rf) F38 (by decide))) (by decide) pd35
  exact kk K ln Ls gn hp36 _ _ ls hW ok37 pd42 (by omega) pd43 km kx (lv_sub hl [0, 1, 2, 3] rfl) hw hS
