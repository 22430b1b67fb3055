set_option maxRecDepth 100000 in
set_option maxHeartbeats 4000000 in
theorem cX7_utter_0 (l : Launch) (G : va_G) (cy : Nat → ClassId) (ev : Ew) (K ln : Nat → Nat) (Ls : List Nat) (hW : SW K ln Ls) (sz : Nat) (hp0 : Nat → Nat → Value) (ok0 : Ok K hp0) (qa900 : Nat) (qa901 : Nat) (zi902 : Int32) (kd900 : K qa900 = 8) (kd901 : K qa901 = 11) (bd902 : ((0 : Int) ≤ zi902.toInt ∧ zi902.toInt ≤ 15)) : Met l yX7_utter (WS yX7_utter cX7_utter 8 (some .int)) { frames := 4, cells := 0, slots := 0, locals := 97 } (PB2 [.ref qa900, .ref qa901, .int zi902] sz G cy ev (va_pl Ls (cellOf cy K ln hp0))) (QBi (S := (Nat → Nat → Value)) (fun (r : Int32) (u : (Nat → Nat → Value)) => Ok K u ∧ Fr [3003, 3004, 8000, 8001, 8002, 8004, 8006, 8008, 27000, 40000, 41000, 42000] K hp0 u ∧ ((0 : Int) ≤ r.toInt ∧ r.toInt ≤ 2)) G (fun u => va_pl Ls (cellOf cy K ln u)) (va_A (va_pl Ls (cellOf cy K ln hp0)) sz)) 0 0 (va_A (va_pl Ls (cellOf cy K ln hp0)) sz) := by
  refine met_of2 (y := yX7_utter) (L := 8) (av := [.ref qa900, .ref qa901, .int zi902]) (Qc := fun A => QBi (S := (Nat → Nat → Value)) (fun (r : Int32) (u : (Nat → Nat → Value)) => Ok K u ∧ Fr [3003, 3004, 8000, 8001, 8002, 8004, 8006, 8008, 27000, 40000, 41000, 42000] K hp0 u ∧ ((0 : Int) ≤ r.toInt ∧ r.toInt ≤ 2)) G (fun u => va_pl Ls (cellOf cy K ln u)) A) (plainFor_of_name (by decide)) (Nat.le_of_ble_eq_true rfl) ?_
  intro p e s m below meth c hsz hx hb hr hml hown hT hlocks hin hK A hA hE hw hS ls hl
  have hw : PW G cy K ln Ls A hp0 s.heap := hw
  have hown : s.vm.findClass "LieClock$State" = some m.cls := hown
  have hl : lv_has ls 8 [(0, .ref qa900), (1, .ref qa901), (2, .int zi902)] := hl
  obtain ⟨Q, hQ⟩ : ∃ Q : State → Prop, Q = MQ below (QBi (S := (Nat → Nat → Value)) (fun (r : Int32) (u : (Nat → Nat → Value)) => Ok K u ∧ Fr [3003, 3004, 8000, 8001, 8002, 8004, 8006, 8008, 27000, 40000, 41000, 42000] K hp0 u ∧ ((0 : Int) ≤ r.toInt ∧ r.toInt ≤ 2)) G (fun u => va_pl Ls (cellOf cy K ln u)) A) ([.ref qa900, .ref qa901, .int zi902] : List Value).toArray s 0 0 A := ⟨_, rfl⟩
  rw [← hQ]
  refine lv_aload_n hx hb dX7_utter_0 rfl (lv_at hl 0 rfl) ?_
  refine lv_aload_n hx hb dX7_utter_1 rfl (lv_at hl 1 rfl) ?_
  refine lv_iconst (v := 1) hx hb dX7_utter_2 (by decide) ?_
  refine kq_v hw hS hA (va_runV (As := [.ref qa901, .int 1]) (rest := []) ⟨hx, hb, hml, hown, hT⟩ (cX7_goForward_0 l G cy ev K ln Ls hW _ hp0 ok0 qa900 qa901 1 kd900 kd901) (cwV 2 hT (good_V tb_1063 tb_1060 tb_1061 tb_1062 tb_115) rfl rfl rfl (by decide +kernel) ⟨Nat.le_of_ble_eq_true rfl, Nat.le_of_ble_eq_true rfl⟩) (pool_preV (ci := 7) hK hE hS hA hw hW kd900 (by decide) rfl) rfl rfl hl.1 rfl (lv_room (Nat.le_of_ble_eq_true rfl)) dX7_utter_3 ⟨Nat.le_of_ble_eq_true rfl, Nat.le_of_ble_eq_true rfl⟩) (fun hp1 H locs hq4 hw hS => ?_)
  obtain ⟨ok2, F3⟩ := hq4
  have hw : PW G cy K ln Ls A hp1 H := hw
  refine lv_iconst (v := 1) hx hb dX7_utter_6 (by decide) ?_
  refine lv_iload_n hx hb dX7_utter_7 rfl (lv_at hl 2 rfl) ?_
  refine lv_ishl hx hb dX7_utter_8 (lv_topi (fun zi6 ea7 => ?_))
  have bd8 : (1 : Int) ≤ zi6.toInt ∧ zi6.toInt ≤ 32768 := b_shl1 15 ea7 bd902 (by decide) (by decide) (by decide) (by decide) (by decide)
  refine lv_istore_n (lv' := [(3, .int zi6), (0, .ref qa900), (1, .ref qa901), (2, .int zi902)]) hx hb dX7_utter_9 rfl hl (by decide) rfl (fun ls hl => ?_)
  refine lv_aload_n hx hb dX7_utter_10 rfl (lv_at hl 2 rfl) ?_
  obtain ⟨qa10, eq9, kd11⟩ := rd_11013 ok2 kd901
  refine p_getN (ci := 10) (v := .ref qa10) (C := RX10) (T := TX10) (N := 20) hx hb hT iw_X10 hown hK hw hW kd901 (by decide) rfl rfl 13 (by decide) eq9 (hK.fl nw_124) (fun _ h9 => h9) dX7_utter_11 ?_
  refine lv_iload_n hx hb dX7_utter_14 rfl (lv_at hl 3 rfl) ?_
  obtain ⟨zi13, eq12, bd14⟩ := rd_51000 ok2 kd11 ((zi902 : Int32).toNatClampNeg)
  refine p_iald (v := zi13) hx hb hK hw hW kd11 (by decide) rfl (hW.len kd11 (n := 16) rfl (by decide)) (vp_b bd902 (by decide) (by decide)) eq12 dX7_utter_15 ?_
  refine lv_istore (lv' := [(4, .int zi13), (3, .int zi6), (0, .ref qa900), (1, .ref qa901), (2, .int zi902)]) hx hb dX7_utter_16 hl (by decide) rfl (fun ls hl => ?_)
  refine lv_aload_n hx hb dX7_utter_18 rfl (lv_at hl 2 rfl) ?_
  obtain ⟨zi16, eq15⟩ := rd_8001 ok2 kd900
  refine p_get (ci := 7) (v := .int zi16) (C := RX7) (T := TX7) (N := 13) hx hb hT iw_X7 hown hK hw hW kd900 (by decide) rfl rfl 1 (by decide) eq15 (hT _ tb_416) (fun _ h9 => h9) dX7_utter_19 ?_
  refine lv_iload_n hx hb dX7_utter_22 rfl (lv_at hl 1 rfl) ?_
  refine lv_iand hx hb dX7_utter_23 (lv_topi (fun zi17 ea18 => ?_))
  have bd19 : (0 : Int) ≤ zi17.toInt ∧ zi17.toInt ≤ 32768 := b_and_r ea18 bd8 (by decide) (by decide) (by decide)
  have jn25 : ∀ (zi23 : Int32) (H : Heap) (locs : List Loc) (ls : Array Slot), ((0 : Int) ≤ zi23.toInt ∧ zi23.toInt ≤ 1) → lv_has ls 8 [(0, .ref qa900), (1, .ref qa901), (3, .int zi6), (4, .int zi13)] → PW G cy K ln Ls A hp1 H → va_S A s.heap H locs → W p l e ({ frames := 4, cells := 0, slots := 0, locals := 97 } : Room) s m ([.ref qa900, .ref qa901, .int zi902] : List Value).toArray below meth c H locs 0 0 Q (F0 m 32 ls [.int zi23]) := by
    intro zi23 H locs ls bd24 hl hw hS
    refine lv_istore (lv' := [(5, .int zi23), (0, .ref qa900), (1, .ref qa901), (3, .int zi6), (4, .int zi13)]) hx hb dX7_utter_32 hl (by decide) rfl (fun ls hl => ?_)
    refine lv_aload_n hx hb dX7_utter_34 rfl (lv_at hl 1 rfl) ?_
    refine lv_dup hx hb dX7_utter_35 rfl ?_
    refine p_get (ci := 7) (v := .int zi16) (C := RX7) (T := TX7) (N := 13) hx hb hT iw_X7 hown hK hw hW kd900 (by decide) rfl rfl 1 (by decide) eq15 (hT _ tb_416) (fun _ h9 => h9) dX7_utter_36 ?_
    refine lv_iload_n hx hb dX7_utter_39 rfl (lv_at hl 3 rfl) ?_
    refine lv_ior hx hb dX7_utter_40 (lv_topi (fun zi26 ea27 => ?_))
    refine p_put (ci := 7) (v := .int zi26) (ty := .int) (C := RX7) (T := TX7) (N := 13) hx hb hT iw_X7 tyX7 tyX7_ok nmX7 hown hK hw hS hW kd900 (by decide) rfl rfl 1 (by decide) (hT _ tb_416) (fun _ h9 => h9) rfl (by decide +kernel) rfl rfl dX7_utter_41 (fun hp28 eh29 H locs hw hS => ?_)
    have ok30 := wr_8001 ok2 kd900 eh29
    refine lv_iload hx hb dX7_utter_44 (lv_at hl 0 rfl) ?_
    have jn48 : ∀ (zi46 : Int32) (H : Heap) (locs : List Loc) (ls : Array Slot), ((0 : Int) ≤ zi46.toInt ∧ zi46.toInt ≤ 1) → lv_has ls 8 [(0, .ref qa900), (1, .ref qa901), (4, .int zi13)] → PW G cy K ln Ls A hp28 H → va_S A s.heap H locs → W p l e ({ frames := 4, cells := 0, slots := 0, locals := 97 } : Room) s m ([.ref qa900, .ref qa901, .int zi902] : List Value).toArray below meth c H locs 0 0 Q (F0 m 68 ls [.int zi46]) := by
      intro zi46 H locs ls bd47 hl hw hS
      refine lv_istore (lv' := [(6, .int zi46), (0, .ref qa900), (1, .ref qa901), (4, .int zi13)]) hx hb dX7_utter_68 hl (by decide) rfl (fun ls hl => ?_)
      refine lv_iload hx hb dX7_utter_70 (lv_at hl 0 rfl) ?_
      have jn84 : ∀ (hp81 : Nat → Nat → Value)  (H : Heap) (locs : List Loc) (ls : Array Slot), Ok K hp81 → Fr [3003, 3004, 8000, 8004, 8006, 8008, 27000, 40000, 41000, 42000] K hp28 hp81 → lv_has ls 8 [(0, .ref qa900), (1, .ref qa901), (4, .int zi13), (6, .int zi46)] → PW G cy K ln Ls A hp81 H → va_S A s.heap H locs → W p l e ({ frames := 4, cells := 0, slots := 0, locals := 97 } : Room) s m ([.ref qa900, .ref qa901, .int zi902] : List Value).toArray below meth c H locs 0 0 Q (F0 m 111 ls []) := by
        intro hp81 H locs ls ok83 F82 hl hw hS
        refine lv_aload_n hx hb dX7_utter_111 rfl (lv_at hl 0 rfl) ?_
        refine lv_aload_n hx hb dX7_utter_112 rfl (lv_at hl 1 rfl) ?_
        refine lv_iload hx hb dX7_utter_113 (lv_at hl 2 rfl) ?_
        refine kq_i hw hS hA (va_runV (As := [.ref qa901, .int zi13]) (rest := []) ⟨hx, hb, hml, hown, hT⟩ (cX7_examine_0 l G cy ev K ln Ls hW _ hp81 ok83 qa900 qa901 zi13 kd900 kd901 (b_wid2 bd14 (by decide) (by decide))) (cwV 2 hT (good_V tb_1096 tb_1093 tb_1095 tb_31 tb_115) rfl rfl rfl (by decide +kernel) ⟨Nat.le_of_ble_eq_true rfl, Nat.le_of_ble_eq_true rfl⟩) (pool_preV (ci := 7) hK hE hS hA hw hW kd900 (by decide) rfl) rfl rfl hl.1 rfl (lv_room (Nat.le_of_ble_eq_true rfl)) dX7_utter_115 ⟨Nat.le_of_ble_eq_true rfl, Nat.le_of_ble_eq_true rfl⟩) (fun zi89 hp85 H locs hq88 hw hS => ?_)
        obtain ⟨ok86, F87, bd90⟩ := hq88
        have hw : PW G cy K ln Ls A hp85 H := hw
        refine lv_if_le (tgt := 123) hx hb dX7_utter_118 (by decide) (fun cn91 => ?_) (fun cn91 => ?_)
        · skip
          have bd92 : (0 : Int) ≤ zi89.toInt ∧ zi89.toInt ≤ 0 := r_le_x cn91 bd90 bc_0 (by decide) (by decide)
          refine lv_iload hx hb dX7_utter_123 (lv_at hl 3 rfl) ?_
          refine lv_if_eq (tgt := 132) hx hb dX7_utter_125 (by decide) (fun cn93 => ?_) (fun cn93 => ?_)
          · skip
            have bd94 : (0 : Int) ≤ zi46.toInt ∧ zi46.toInt ≤ 0 := r_eq_x cn93 bd47 bc_0 (by decide) (by decide)
            refine lv_iconst (v := 0) hx hb dX7_utter_132 (by decide) ?_
            rw [hQ]
            exact kz_i hx hb hr hlocks hS rfl hp85 hw ⟨ok86, (Fr.tr (Fr.tr (Fr.put (cq := 8001) (Fr.tr (Fr.rf) F3 (by decide)) eh29 kd900 (cd_o (by decide)) (by decide)) F82 (by decide)) F87 (by decide)), (b_wid2 bc_0 (by decide) (by decide))⟩ (Nat.le_of_ble_eq_true rfl) (Nat.le_of_ble_eq_true rfl) dX7_utter_133
          · skip
            have bd95 : (1 : Int) ≤ zi46.toInt ∧ zi46.toInt ≤ 1 := r_ne_lo cn93 bd47 (toi bc_0) (by decide) (by decide)
            refine lv_iconst (v := 2) hx hb dX7_utter_128 (by decide) ?_
            refine lv_goto (tgt := 133) hx hb dX7_utter_129 (by decide) ?_
            rw [hQ]
            exact kz_i hx hb hr hlocks hS rfl hp85 hw ⟨ok86, (Fr.tr (Fr.tr (Fr.put (cq := 8001) (Fr.tr (Fr.rf) F3 (by decide)) eh29 kd900 (cd_o (by decide)) (by decide)) F82 (by decide)) F87 (by decide)), (b_wid2 bc_2 (by decide) (by decide))⟩ (Nat.le_of_ble_eq_true rfl) (Nat.le_of_ble_eq_true rfl) dX7_utter_133
        · skip
          have bd96 : (1 : Int) ≤ zi89.toInt ∧ zi89.toInt ≤ 63 := r_lt_y (Int32.not_le.mp cn91) bc_0 bd90 (by decide) (by decide)
          refine lv_iconst (v := 1) hx hb dX7_utter_121 (by decide) ?_
          rw [hQ]
          exact kz_i hx hb hr hlocks hS rfl hp85 hw ⟨ok86, (Fr.tr (Fr.tr (Fr.put (cq := 8001) (Fr.tr (Fr.rf) F3 (by decide)) eh29 kd900 (cd_o (by decide)) (by decide)) F82 (by decide)) F87 (by decide)), (b_wid2 bc_1 (by decide) (by decide))⟩ (Nat.le_of_ble_eq_true rfl) (Nat.le_of_ble_eq_true rfl) dX7_utter_122
      refine lv_if_eq (tgt := 111) hx hb dX7_utter_72 (by decide) (fun cn49 => ?_) (fun cn49 => ?_)
      · skip
        have bd97 : (0 : Int) ≤ zi46.toInt ∧ zi46.toInt ≤ 0 := r_eq_x cn49 bd47 bc_0 (by decide) (by decide)
        exact jn84 hp28 _ _ ls ok30 (Fr.rf) (lv_sub hl [1, 2, 3, 0] rfl) hw hS
      · skip
        have bd98 : (1 : Int) ≤ zi46.toInt ∧ zi46.toInt ≤ 1 := r_ne_lo cn49 bd47 (toi bc_0) (by decide) (by decide)
        refine lv_aload_n hx hb dX7_utter_75 rfl (lv_at hl 2 rfl) ?_
        obtain ⟨qa100, eq99, kd101⟩ := rd_11019 ok30 kd901
        refine p_getN (ci := 10) (v := .ref qa100) (C := RX10) (T := TX10) (N := 20) hx hb hT iw_X10 hown hK hw hW kd901 (by decide) rfl rfl 19 (by decide) eq99 (hK.fl nw_142) (fun _ h9 => h9) dX7_utter_76 ?_
        refine lv_aload_n hx hb dX7_utter_79 rfl (lv_at hl 1 rfl) ?_
        refine lv_aload_n hx hb dX7_utter_80 rfl (lv_at hl 2 rfl) ?_
        obtain ⟨qa103, eq102, kd104⟩ := rd_11012 ok30 kd901
        refine p_getN (ci := 10) (v := .ref qa103) (C := RX10) (T := TX10) (N := 20) hx hb hT iw_X10 hown hK hw hW kd901 (by decide) rfl rfl 12 (by decide) eq102 (hK.fl nw_121) (fun _ h9 => h9) dX7_utter_81 ?_
        refine lv_iload hx hb dX7_utter_84 (lv_at hl 3 rfl) ?_
        obtain ⟨zi106, eq105⟩ := rd_50000 ok30 kd104 ((zi13 : Int32).toNatClampNeg)
        refine p_iald (v := zi106) hx hb hK hw hW kd104 (by decide) rfl (hW.len kd104 (n := 6) rfl (by decide)) (vp_b bd14 (by decide) (by decide)) eq105 dX7_utter_86 ?_
        refine kq_i hw hS hA (va_runV (As := [.ref qa900, .int zi106]) (rest := []) ⟨hx, hb, hml, hown, hT⟩ (cX2_minutes_0 l G cy ev K ln Ls hW _ hp28 ok30 qa100 qa900 zi106 kd101 kd900) (cwV 2 hT (good_V tb_1074 tb_1071 tb_1072 tb_1073 tb_108) rfl rfl rfl (by decide +kernel) ⟨Nat.le_of_ble_eq_true rfl, Nat.le_of_ble_eq_true rfl⟩) (pool_preV (ci := 2) hK hE hS hA hw hW kd101 (by decide) rfl) rfl rfl hl.1 rfl (lv_room (Nat.le_of_ble_eq_true rfl)) dX7_utter_87 ⟨Nat.le_of_ble_eq_true rfl, Nat.le_of_ble_eq_true rfl⟩) (fun zi111 hp107 H locs hq110 hw hS => ?_)
        obtain ⟨ok108, F109, bd112⟩ := hq110
        have hw : PW G cy K ln Ls A hp107 H := hw
        refine lv_istore (lv' := [(7, .int zi111), (6, .int zi46), (0, .ref qa900), (1, .ref qa901), (4, .int zi13)]) hx hb dX7_utter_90 hl (by decide) rfl (fun ls hl => ?_)
        refine lv_aload_n hx hb dX7_utter_92 rfl (lv_at hl 2 rfl) ?_
        obtain ⟨qa114, eq113, kd115⟩ := rd_8012 ok108 kd900
        refine p_get (ci := 7) (v := .ref qa114) (C := RX7) (T := TX7) (N := 13) hx hb hT iw_X7 hown hK hw hW kd900 (by decide) rfl rfl 12 (by decide) eq113 (hT _ tb_442) (fun _ h9 => h9) dX7_utter_93 ?_
        refine lv_iload hx hb dX7_utter_96 (lv_at hl 4 rfl) ?_
        refine lv_dup2_11 hx hb dX7_utter_98 rfl rfl ?_
        obtain ⟨zi117, eq116⟩ := rd_42000 ok108 kd115 ((zi13 : Int32).toNatClampNeg)
        refine p_iald (v := zi117) hx hb hK hw hW kd115 (by decide) rfl (hW.len kd115 (n := 6) rfl (by decide)) (vp_b bd14 (by decide) (by decide)) eq116 dX7_utter_99 ?_
        refine lv_iload hx hb dX7_utter_100 (lv_at hl 0 rfl) ?_
        refine lv_iadd hx hb dX7_utter_102 (lv_topi (fun zi118 ea119 => ?_))
        refine p_iast (x := zi118) hx hb hK hw hS hW kd115 (by decide) rfl (hW.len kd115 (n := 6) rfl (by decide)) (vp_b bd14 (by decide) (by decide)) dX7_utter_103 (fun hp120 eh121 H locs hw hS => ?_)
        have ok122 := wr_42000 ok108 kd115 eh121
        refine lv_aload_n hx hb dX7_utter_104 rfl (lv_at hl 2 rfl) ?_
        refine lv_aload_n hx hb dX7_utter_105 rfl (lv_at hl 3 rfl) ?_
        refine lv_iload hx hb dX7_utter_106 (lv_at hl 0 rfl) ?_
        refine kq_v hw hS hA (va_runV (As := [.ref qa901, .int zi111]) (rest := []) ⟨hx, hb, hml, hown, hT⟩ (cX7_goForward_0 l G cy ev K ln Ls hW _ hp120 ok122 qa900 qa901 zi111 kd900 kd901) (cwV 2 hT (good_V tb_1063 tb_1060 tb_1061 tb_1062 tb_115) rfl rfl rfl (by decide +kernel) ⟨Nat.le_of_ble_eq_true rfl, Nat.le_of_ble_eq_true rfl⟩) (pool_preV (ci := 7) hK hE hS hA hw hW kd900 (by decide) rfl) rfl rfl hl.1 rfl (lv_room (Nat.le_of_ble_eq_true rfl)) dX7_utter_108 ⟨Nat.le_of_ble_eq_true rfl, Nat.le_of_ble_eq_true rfl⟩) (fun hp123 H locs hq126 hw hS => ?_)
        obtain ⟨ok124, F125⟩ := hq126
        have hw : PW G cy K ln Ls A hp123 H := hw
        exact jn84 hp123 _ _ ls ok124 (Fr.tr (Fr.put (cq := 42000) (Fr.tr (Fr.rf) F109 (by decide)) eh121 kd115 (cd_a (by decide)) (by decide)) F125 (by decide)) (lv_sub hl [2, 3, 4, 1] rfl) hw hS
    refine lv_if_eq (tgt := 67) hx hb dX7_utter_46 (by decide) (fun cn31 => ?_) (fun cn31 => ?_)
    · skip
      have bd128 : (0 : Int) ≤ zi23.toInt ∧ zi23.toInt ≤ 0 := r_eq_x cn31 bd24 bc_0 (by decide) (by decide)
      refine lv_iconst (v := 0) hx hb dX7_utter_67 (by decide) ?_
      exact jn48 0 _ _ ls (b_wid2 bc_0 (by decide) (by decide)) (lv_sub hl [1, 2, 4] rfl) hw hS
    · skip
      have bd129 : (1 : Int) ≤ zi23.toInt ∧ zi23.toInt ≤ 1 := r_ne_lo cn31 bd24 (toi bc_0) (by decide) (by decide)
      refine lv_aload_n hx hb dX7_utter_49 rfl (lv_at hl 2 rfl) ?_
      obtain ⟨zi131, eq130⟩ := rd_11005 ok30 kd901
      refine p_getN (ci := 10) (v := .int zi131) (C := RX10) (T := TX10) (N := 20) hx hb hT iw_X10 hown hK hw hW kd901 (by decide) rfl rfl 5 (by decide) eq130 (hK.fl nw_102) (fun _ h9 => h9) dX7_utter_50 ?_
      refine lv_aload_n hx hb dX7_utter_53 rfl (lv_at hl 2 rfl) ?_
      obtain ⟨zi133, eq132⟩ := rd_11006 ok30 kd901
      refine p_getN (ci := 10) (v := .int zi133) (C := RX10) (T := TX10) (N := 20) hx hb hT iw_X10 hown hK hw hW kd901 (by decide) rfl rfl 6 (by decide) eq132 (hK.fl nw_106) (fun _ h9 => h9) dX7_utter_54 ?_
      refine lv_iand hx hb dX7_utter_57 (lv_topi (fun zi134 ea135 => ?_))
      refine lv_iload_n hx hb dX7_utter_58 rfl (lv_at hl 3 rfl) ?_
      refine lv_iand hx hb dX7_utter_59 (lv_topi (fun zi136 ea137 => ?_))
      have bd138 : (0 : Int) ≤ zi136.toInt ∧ zi136.toInt ≤ 32768 := b_and_r ea137 bd8 (by decide) (by decide) (by decide)
      refine lv_if_eq (tgt := 67) hx hb dX7_utter_60 (by decide) (fun cn139 => ?_) (fun cn139 => ?_)
      · skip
        have bd140 : (0 : Int) ≤ zi136.toInt ∧ zi136.toInt ≤ 0 := r_eq_x cn139 bd138 bc_0 (by decide) (by decide)
        refine lv_iconst (v := 0) hx hb dX7_utter_67 (by decide) ?_
        exact jn48 0 _ _ ls (b_wid2 bc_0 (by decide) (by decide)) (lv_sub hl [1, 2, 4] rfl) hw hS
      · skip
        have bd141 : (1 : Int) ≤ zi136.toInt ∧ zi136.toInt ≤ 32768 := r_ne_lo cn139 bd138 (toi bc_0) (by decide) (by decide)
        refine lv_iconst (v := 1) hx hb dX7_utter_63 (by decide) ?_
        refine lv_goto (tgt := 68) hx hb dX7_utter_64 (by decide) ?_
        exact jn48 1 _ _ ls (b_wid2 bc_1 (by decide) (by decide)) (lv_sub hl [1, 2, 4] rfl) hw hS
  refine lv_if_ne (tgt := 31) hx hb dX7_utter_24 (by decide) (fun cn20 => ?_) (fun cn20 => ?_)
  · skip
    have bd142 : (1 : Int) ≤ zi17.toInt ∧ zi17.toInt ≤ 32768 := r_ne_lo cn20 bd19 (toi bc_0) (by decide) (by decide)
    refine lv_iconst (v := 0) hx hb dX7_utter_31 (by decide) ?_
    exact jn25 0 _ _ ls (b_wid2 bc_0 (by decide) (by decide)) (lv_sub hl [2, 3, 1, 0] rfl) hw hS
  · skip
    have bd143 : (0 : Int) ≤ zi17.toInt ∧ zi17.toInt ≤ 0 := r_eq_x cn20 bd19 bc_0 (by decide) (by decide)
    refine lv_iconst (v := 1) hx hb dX7_utter_27 (by decide) ?_
    refine lv_goto (tgt := 32) hx hb dX7_utter_28 (by decide) ?_
    exact jn25 1 _ _ ls (b_wid2 bc_1 (by decide) (by decide)) (lv_sub hl [2, 3, 1, 0] rfl) hw hS

set_option maxRecDepth 100000 in
set_option maxHeartbeats 4000000 in
theorem cX7_reveal_0 (l : Launch) (G : va_G) (cy : Nat → ClassId) (ev : Ew) (K ln : Nat → Nat) (Ls : List Nat) (hW : SW K ln Ls) (sz : Nat) (hp0 : Nat → Nat → Value) (ok0 : Ok K hp0) (qa900 : Nat) (qa901 : Nat) (zi902 : Int32) (kd900 : K qa900 = 8) (kd901 : K qa901 = 11) (bd902 : ((0 : Int) ≤ zi902.toInt ∧ zi902.toInt ≤ 5)) : Met l yX7_reveal (WS yX7_reveal cX7_reveal 5 (some .int)) { frames := 4, cells := 0, slots := 0, locals := 97 } (PB2 [.ref qa900, .ref qa901, .int zi902] sz G cy ev (va_pl Ls (cellOf cy K ln hp0))) (QBi (S := (Nat → Nat → Value)) (fun (r : Int32) (u : (Nat → Nat → Value)) => Ok K u ∧ Fr [3003, 3004, 8000, 8002, 8003, 8004, 8005, 8006, 8008, 27000, 40000, 41000, 42000] K hp0 u) G (fun u => va_pl Ls (cellOf cy K ln u)) (va_A (va_pl Ls (cellOf cy K ln hp0)) sz)) 0 0 (va_A (va_pl Ls (cellOf cy K ln hp0)) sz) := by
  refine met_of2 (y := yX7_reveal) (L := 5) (av := [.ref qa900, .ref qa901, .int zi902]) (Qc := fun A => QBi (S := (Nat → Nat → Value)) (fun (r : Int32) (u : (Nat → Nat → Value)) => Ok K u ∧ Fr [3003, 3004, 8000, 8002, 8003, 8004, 8005, 8006, 8008, 27000, 40000, 41000, 42000] K hp0 u) G (fun u => va_pl Ls (cellOf cy K ln u)) A) (plainFor_of_name (by decide)) (Nat.le_of_ble_eq_true rfl) ?_
  intro p e s m below meth c hsz hx hb hr hml hown hT hlocks hin hK A hA hE hw hS ls hl
  have hw : PW G cy K ln Ls A hp0 s.heap := hw
  have hown : s.vm.findClass "LieClock$State" = some m.cls := hown
  have hl : lv_has ls 5 [(0, .ref qa900), (1, .ref qa901), (2, .int zi902)] := hl
  obtain ⟨Q, hQ⟩ : ∃ Q : State → Prop, Q = MQ below (QBi (S := (Nat → Nat → Value)) (fun (r : Int32) (u : (Nat → Nat → Value)) => Ok K u ∧ Fr [3003, 3004, 8000, 8002, 8003, 8004, 8005, 8006, 8008, 27000, 40000, 41000, 42000] K hp0 u) G (fun u => va_pl Ls (cellOf cy K ln u)) A) ([.ref qa900, .ref qa901, .int zi902] : List Value).toArray s 0 0 A := ⟨_, rfl⟩
  rw [← hQ]
  refine lv_aload_n hx hb dX7_reveal_0 rfl (lv_at hl 0 rfl) ?_
  refine lv_aload_n hx hb dX7_reveal_1 rfl (lv_at hl 1 rfl) ?_
  refine lv_iconst (v := 1) hx hb dX7_reveal_2 (by decide) ?_
  refine kq_v hw hS hA (va_runV (As := [.ref qa901, .int 1]) (rest := []) ⟨hx, hb, hml, hown, hT⟩ (cX7_goForward_0 l G cy ev K ln Ls hW _ hp0 ok0 qa900 qa901 1 kd900 kd901) (cwV 2 hT (good_V tb_1063 tb_1060 tb_1061 tb_1062 tb_115) rfl rfl rfl (by decide +kernel) ⟨Nat.le_of_ble_eq_true rfl, Nat.le_of_ble_eq_true rfl⟩) (pool_preV (ci := 7) hK hE hS hA hw hW kd900 (by decide) rfl) rfl rfl hl.1 rfl (lv_room (Nat.le_of_ble_eq_true rfl)) dX7_reveal_3 ⟨Nat.le_of_ble_eq_true rfl, Nat.le_of_ble_eq_true rfl⟩) (fun hp1 H locs hq4 hw hS => ?_)
  obtain ⟨ok2, F3⟩ := hq4
  have hw : PW G cy K ln Ls A hp1 H := hw
  refine lv_aload_n hx hb dX7_reveal_6 rfl (lv_at hl 0 rfl) ?_
  refine lv_dup hx hb dX7_reveal_7 rfl ?_
  obtain ⟨zi7, eq6⟩ := rd_8003 ok2 kd900
  refine p_get (ci := 7) (v := .int zi7) (C := RX7) (T := TX7) (N := 13) hx hb hT iw_X7 hown hK hw hW kd900 (by decide) rfl rfl 3 (by decide) eq6 (hT _ tb_424) (fun _ h9 => h9) dX7_reveal_8 ?_
  refine lv_iconst (v := 1) hx hb dX7_reveal_11 (by decide) ?_
  refine lv_iload_n hx hb dX7_reveal_12 rfl (lv_at hl 2 rfl) ?_
  refine lv_ishl hx hb dX7_reveal_13 (lv_topi (fun zi8 ea9 => ?_))
  have bd10 : (1 : Int) ≤ zi8.toInt ∧ zi8.toInt ≤ 32 := b_shl1 5 ea9 bd902 (by decide) (by decide) (by decide) (by decide) (by decide)
  refine lv_ior hx hb dX7_reveal_14 (lv_topi (fun zi11 ea12 => ?_))
  refine p_put (ci := 7) (v := .int zi11) (ty := .int) (C := RX7) (T := TX7) (N := 13) hx hb hT iw_X7 tyX7 tyX7_ok nmX7 hown hK hw hS hW kd900 (by decide) rfl rfl 3 (by decide) (hT _ tb_424) (fun _ h9 => h9) rfl (by decide +kernel) rfl rfl dX7_reveal_15 (fun hp13 eh14 H locs hw hS => ?_)
  have ok15 := wr_8003 ok2 kd900 eh14
  refine lv_aload_n hx hb dX7_reveal_18 rfl (lv_at hl 0 rfl) ?_
  refine lv_dup hx hb dX7_reveal_19 rfl ?_
  obtain ⟨wl17, eq16⟩ := rd_8005 ok15 kd900
  refine p_get (ci := 7) (v := .long wl17) (C := RX7) (T := TX7) (N := 13) hx hb hT iw_X7 hown hK hw hW kd900 (by decide) rfl rfl 5 (by decide) eq16 (hT _ tb_429) (fun _ h9 => h9) dX7_reveal_20 ?_
  refine lv_aload_n hx hb dX7_reveal_23 rfl (lv_at hl 1 rfl) ?_
  refine lv_iload_n hx hb dX7_reveal_24 rfl (lv_at hl 2 rfl) ?_
  refine kq_l hw hS hA (va_runV (As := [.int zi902]) (rest := [.long wl17, .ref qa900]) ⟨hx, hb, hml, hown, hT⟩ (cX10_asItIs_0 l G cy ev K ln Ls hW _ hp13 ok15 qa901 zi902 kd901) (cwV 1 hT (good_V tb_478 tb_475 tb_476 tb_477 tb_107) rfl rfl rfl (by decide +kernel) ⟨Nat.le_of_ble_eq_true rfl, Nat.le_of_ble_eq_true rfl⟩) (pool_preV (ci := 10) hK hE hS hA hw hW kd901 (by decide) rfl) rfl rfl hl.1 rfl (lv_room (Nat.le_of_ble_eq_true rfl)) dX7_reveal_25 ⟨Nat.le_of_ble_eq_true rfl, Nat.le_of_ble_eq_true rfl⟩) (fun wl22 hp18 H locs hq21 hw hS => ?_)
  obtain ⟨ok19, F20⟩ := hq21
  obtain rfl : hp13 = hp18 := (Fr.nil F20).symm
  have hw : PW G cy K ln Ls A hp13 H := hw
  refine lv_land hx hb dX7_reveal_28 (lv_topl (fun wl23 _ => ?_))
  refine p_put (ci := 7) (v := .long wl23) (ty := .long) (C := RX7) (T := TX7) (N := 13) hx hb hT iw_X7 tyX7 tyX7_ok nmX7 hown hK hw hS hW kd900 (by decide) rfl rfl 5 (by decide) (hT _ tb_429) (fun _ h9 => h9) rfl (by decide +kernel) rfl rfl dX7_reveal_29 (fun hp24 eh25 H locs hw hS => ?_)
  have ok26 := wr_8005 ok15 kd900 eh25
  refine lv_iconst (v := 0) hx hb dX7_reveal_32 (by decide) ?_
  refine lv_istore_n (lv' := [(3, .int 0), (0, .ref qa900), (1, .ref qa901), (2, .int zi902)]) hx hb dX7_reveal_33 rfl hl (by decide) rfl (fun ls hl => ?_)
  refine lv_iconst (v := 0) hx hb dX7_reveal_34 (by decide) ?_
  refine lv_istore (lv' := [(4, .int 0), (3, .int 0), (0, .ref qa900), (1, .ref qa901), (2, .int zi902)]) hx hb dX7_reveal_35 hl (by decide) rfl (fun ls hl => ?_)
  have lp353 : ∀ (n351 : Nat) (hp309 : Nat → Nat → Value) (zi307 : Int32) (zi308 : Int32) (H : Heap) (locs : List Loc) (ls : Array Slot), 6 - zi308.toInt < (n351 : Int) → Ok K hp309 → Fr [3003, 3004, 8000, 8002, 27000, 42000] K hp24 hp309 → ((0 : Int) ≤ zi308.toInt ∧ zi308.toInt ≤ 6) → lv_has ls 5 [(0, .ref qa900), (1, .ref qa901), (3, .int zi307), (4, .int zi308)] → PW G cy K ln Ls A hp309 H → va_S A s.heap H locs → W p l e ({ frames := 4, cells := 0, slots := 0, locals := 97 } : Room) s m ([.ref qa900, .ref qa901, .int zi902] : List Value).toArray below meth c H locs 0 0 Q (F0 m 37 ls []) := by
    intro n351
    induction n351 with
    | zero =>
      intro hp309 zi307 zi308 H locs ls hm354 ok311 F310 bd312 hl hw hS
      exact absurd hm354 (by have := bd312; omega)
    | succ n351 ih352 =>
      intro hp309 zi307 zi308 H locs ls hm354 ok311 F310 bd312 hl hw hS
      refine lv_iload hx hb dX7_reveal_37 (lv_at hl 3 rfl) ?_
      refine lv_aload_n hx hb dX7_reveal_39 rfl (lv_at hl 1 rfl) ?_
      obtain ⟨zi356, eq355, bd357⟩ := rd_11003 ok311 kd901
      refine p_getN (ci := 10) (v := .int zi356) (C := RX10) (T := TX10) (N := 20) hx hb hT iw_X10 hown hK hw hW kd901 (by decide) rfl rfl 3 (by decide) eq355 (hK.fl nw_90) (fun _ h9 => h9) dX7_reveal_40 ?_
      refine lv_icmp_ge (tgt := 62) hx hb dX7_reveal_43 (by decide) (fun cn358 => ?_) (fun cn358 => ?_)
      · skip
        refine lv_iload_n hx hb dX7_reveal_62 rfl (lv_at hl 2 rfl) ?_
        rw [hQ]
        exact kz_i hx hb hr hlocks hS rfl hp309 hw ⟨ok311, (Fr.tr (Fr.put (cq := 8005) (Fr.put (cq := 8003) (Fr.tr (Fr.rf) F3 (by decide)) eh14 kd900 (cd_o (by decide)) (by decide)) eh25 kd900 (cd_o (by decide)) (by decide)) F310 (by decide))⟩ (Nat.le_of_ble_eq_true rfl) (Nat.le_of_ble_eq_true rfl) dX7_reveal_63
      · skip
        have bd374 : (0 : Int) ≤ zi308.toInt ∧ zi308.toInt ≤ 5 := r_lt_x (Int32.not_le.mp cn358) bd312 bd357 (by decide) (by decide)
        have bd375 : (1 : Int) ≤ zi356.toInt ∧ zi356.toInt ≤ 6 := r_lt_y (Int32.not_le.mp cn358) bd312 bd357 (by decide) (by decide)
        refine lv_iload_n hx hb dX7_reveal_46 rfl (lv_at hl 2 rfl) ?_
        refine lv_aload_n hx hb dX7_reveal_47 rfl (lv_at hl 0 rfl) ?_
        refine lv_aload_n hx hb dX7_reveal_48 rfl (lv_at hl 1 rfl) ?_
        refine lv_iload hx hb dX7_reveal_49 (lv_at hl 3 rfl) ?_
        refine kq_i hw hS hA (va_runV (As := [.ref qa901, .int zi308]) (rest := [.int zi307]) ⟨hx, hb, hml, hown, hT⟩ (cX7_examine_0 l G cy ev K ln Ls hW _ hp309 ok311 qa900 qa901 zi308 kd900 kd901 (b_wid2 bd374 (by decide) (by decide))) (cwV 2 hT (good_V tb_1096 tb_1093 tb_1095 tb_31 tb_115) rfl rfl rfl (by decide +kernel) ⟨Nat.le_of_ble_eq_true rfl, Nat.le_of_ble_eq_true rfl⟩) (pool_preV (ci := 7) hK hE hS hA hw hW kd900 (by decide) rfl) rfl rfl hl.1 rfl (lv_room (Nat.le_of_ble_eq_true rfl)) dX7_reveal_51 ⟨Nat.le_of_ble_eq_true rfl, Nat.le_of_ble_eq_true rfl⟩) (fun zi380 hp376 H locs hq379 hw hS => ?_)
        obtain ⟨ok377, F378, bd381⟩ := hq379
        have hw : PW G cy K ln Ls A hp376 H := hw
        refine lv_iadd hx hb dX7_reveal_54 (lv_topi (fun zi382 ea383 => ?_))
        refine lv_istore_n (lv' := [(3, .int zi382), (0, .ref qa900), (1, .ref qa901), (4, .int zi308)]) hx hb dX7_reveal_55 rfl hl (by decide) rfl (fun ls hl => ?_)
        obtain ⟨zi384, ea385⟩ : ∃ z : Int32, z = zi308 + 1 := ⟨_, rfl⟩
        have bd386 : (1 : Int) ≤ zi384.toInt ∧ zi384.toInt ≤ 6 := b_iadd ea385 bd374 bc_1 (by decide) (by decide) (by decide) (by decide)
        have qe387 : zi384.toInt = (zi308 : Int32).toInt + (1 : Int32).toInt := e_iadd ea385 bd374 bc_1 (by decide) (by decide)
        have qe388 : zi384.toInt = zi308.toInt + 1 := by have ha : (1 : Int32).toInt = 1 := (by decide); rw [ha] at qe387; exact qe387
        refine lv_iinc (v := zi384) (lv' := [(4, .int zi384), (3, .int zi382), (0, .ref qa900), (1, .ref qa901)]) hx hb dX7_reveal_56 hl (k := 3) rfl ea385.symm (by decide) rfl (fun ls hl => ?_)
        refine lv_goto (tgt := 37) hx hb dX7_reveal_59 (by decide) ?_
        exact ih352 hp376 zi382 zi384 _ _ ls (by have := hm354; have := qe388; omega) ok377 (Fr.tr (Fr.tr (Fr.rf) F310 (by decide)) F378 (by decide)) (b_wid2 bd386 (by decide) (by decide)) (lv_sub hl [2, 3, 1, 0] rfl) hw hS
  exact lp353 _ hp24 0 0 _ _ ls (lp_in _) ok26 (Fr.rf) (b_wid2 bc_0 (by decide) (by decide)) (lv_sub hl [2, 3, 1, 0] rfl) hw hS

set_option maxRecDepth 100000 in
set_option maxHeartbeats 4000000 in
theorem cX6_add_0 (l : Launch) (G : va_G) (cy : Nat → ClassId) (ev : Ew) (K ln : Nat → Nat) (Ls : List Nat) (hW : SW K ln Ls) (sz : Nat) (hp0 : Nat → Nat → Value) (ok0 : Ok K hp0) (qa900 : Nat) (zi901 : Int32) (wl902 : Int64) (kd900 : K qa900 = 7) : Met l yX6_add (WS yX6_add cX6_add 4 none) { frames := 0, cells := 0, slots := 0, locals := 0 } (PB2 [.ref qa900, .int zi901, .long wl902] sz G cy ev (va_pl Ls (cellOf cy K ln hp0))) (QBv (S := (Nat → Nat → Value)) (fun u : (Nat → Nat → Value) => Ok K u ∧ Fr [7003, 37000, 38000] K hp0 u) G (fun u => va_pl Ls (cellOf cy K ln u)) (va_A (va_pl Ls (cellOf cy K ln hp0)) sz)) 0 0 (va_A (va_pl Ls (cellOf cy K ln hp0)) sz) := by
  refine met_of2 (y := yX6_add) (L := 4) (av := [.ref qa900, .int zi901, .long wl902]) (Qc := fun A => QBv (S := (Nat → Nat → Value)) (fun u : (Nat → Nat → Value) => Ok K u ∧ Fr [7003, 37000, 38000] K hp0 u) G (fun u => va_pl Ls (cellOf cy K ln u)) A) (plainFor_of_name (by decide)) (Nat.le_of_ble_eq_true rfl) ?_
  intro p e s m below meth c hsz hx hb hr hml hown hT hlocks hin hK A hA hE hw hS ls hl
  have hw : PW G cy K ln Ls A hp0 s.heap := hw
  have hown : s.vm.findClass "LieClock$Sets" = some m.cls := hown
  have hl : lv_has ls 4 [(0, .ref qa900), (1, .int zi901), (2, .long wl902)] := hl
  obtain ⟨Q, hQ⟩ : ∃ Q : State → Prop, Q = MQ below (QBv (S := (Nat → Nat → Value)) (fun u : (Nat → Nat → Value) => Ok K u ∧ Fr [7003, 37000, 38000] K hp0 u) G (fun u => va_pl Ls (cellOf cy K ln u)) A) ([.ref qa900, .int zi901, .long wl902] : List Value).toArray s 0 0 A := ⟨_, rfl⟩
  rw [← hQ]
  refine lv_aload_n hx hb dX6_add_0 rfl (lv_at hl 0 rfl) ?_
  obtain ⟨zi2, eq1, bd3⟩ := rd_7003 ok0 kd900
  refine p_get (ci := 6) (v := .int zi2) (C := RX6) (T := TX6) (N := 6) hx hb hT iw_X6 hown hK hw hW kd900 (by decide) rfl rfl 3 (by decide) eq1 (hT _ tb_531) (fun _ h9 => h9) dX6_add_1 ?_
  refine lv_bipush (v := 16) hx hb dX6_add_4 (by decide) ?_
  refine lv_icmp_ge (tgt := 39) hx hb dX6_add_6 (by decide) (fun cn4 => ?_) (fun cn4 => ?_)
  · skip
    have bd5 : (16 : Int) ≤ zi2.toInt ∧ zi2.toInt ≤ 16 := r_le_y cn4 bc_16 bd3 (by decide) (by decide)
    rw [hQ]
    exact kz_v hx hb hr hlocks hS hp0 hw ⟨ok0, (Fr.rf)⟩ (Nat.le_of_ble_eq_true rfl) (Nat.le_of_ble_eq_true rfl) dX6_add_39
  · skip
    have bd6 : (0 : Int) ≤ zi2.toInt ∧ zi2.toInt ≤ 15 := r_lt_x (Int32.not_le.mp cn4) bd3 bc_16 (by decide) (by decide)
    refine lv_aload_n hx hb dX6_add_9 rfl (lv_at hl 0 rfl) ?_
    obtain ⟨qa8, eq7, kd9⟩ := rd_7000 ok0 kd900
    refine p_get (ci := 6) (v := .ref qa8) (C := RX6) (T := TX6) (N := 6) hx hb hT iw_X6 hown hK hw hW kd900 (by decide) rfl rfl 0 (by decide) eq7 (hT _ tb_528) (fun _ h9 => h9) dX6_add_10 ?_
    refine lv_aload_n hx hb dX6_add_13 rfl (lv_at hl 0 rfl) ?_
    refine p_get (ci := 6) (v := .int zi2) (C := RX6) (T := TX6) (N := 6) hx hb hT iw_X6 hown hK hw hW kd900 (by decide) rfl rfl 3 (by decide) eq1 (hT _ tb_531) (fun _ h9 => h9) dX6_add_14 ?_
    refine lv_lload_n hx hb dX6_add_17 rfl (lv_at hl 2 rfl) ?_
    refine p_last (x := wl902) hx hb hK hw hS hW kd9 (by decide) rfl (hW.len kd9 (n := 16) rfl (by decide)) (vp_b bd6 (by decide) (by decide)) dX6_add_18 (fun hp10 eh11 H locs hw hS => ?_)
    have ok12 := wr_37000 ok0 kd9 eh11
    refine lv_aload_n hx hb dX6_add_19 rfl (lv_at hl 0 rfl) ?_
    obtain ⟨qa14, eq13, kd15⟩ := rd_7001 ok12 kd900
    refine p_get (ci := 6) (v := .ref qa14) (C := RX6) (T := TX6) (N := 6) hx hb hT iw_X6 hown hK hw hW kd900 (by decide) rfl rfl 1 (by decide) eq13 (hT _ tb_529) (fun _ h9 => h9) dX6_add_20 ?_
    refine lv_aload_n hx hb dX6_add_23 rfl (lv_at hl 0 rfl) ?_
    have eq16 : hp10 qa900 3 = .int zi2 := Eq.trans (up_at eh11 (Or.inl (kd_ne kd900 kd9 (by decide)))) eq1
    refine p_get (ci := 6) (v := .int zi2) (C := RX6) (T := TX6) (N := 6) hx hb hT iw_X6 hown hK hw hW kd900 (by decide) rfl rfl 3 (by decide) eq16 (hT _ tb_531) (fun _ h9 => h9) dX6_add_24 ?_
    refine lv_iload_n hx hb dX6_add_27 rfl (lv_at hl 1 rfl) ?_
    refine p_iast (x := zi901) hx hb hK hw hS hW kd15 (by decide) rfl (hW.len kd15 (n := 16) rfl (by decide)) (vp_b bd6 (by decide) (by decide)) dX6_add_28 (fun hp17 eh18 H locs hw hS => ?_)
    have ok19 := wr_38000 ok12 kd15 eh18
    refine lv_aload_n hx hb dX6_add_29 rfl (lv_at hl 0 rfl) ?_
    refine lv_dup hx hb dX6_add_30 rfl ?_
    have eq20 : hp17 qa900 3 = .int zi2 := Eq.trans (up_at eh18 (Or.inl (kd_ne kd900 kd15 (by decide)))) eq16
    refine p_get (ci := 6) (v := .int zi2) (C := RX6) (T := TX6) (N := 6) hx hb hT iw_X6 hown hK hw hW kd900 (by decide) rfl rfl 3 (by decide) eq20 (hT _ tb_531) (fun _ h9 => h9) dX6_add_31 ?_
    refine lv_iconst (v := 1) hx hb dX6_add_34 (by decide) ?_
    refine lv_iadd hx hb dX6_add_35 (lv_topi (fun zi21 ea22 => ?_))
    have bd23 : (1 : Int) ≤ zi21.toInt ∧ zi21.toInt ≤ 16 := b_iadd ea22 bd6 bc_1 (by decide) (by decide) (by decide) (by decide)
    have qe24 : zi21.toInt = (zi2 : Int32).toInt + (1 : Int32).toInt := e_iadd ea22 bd6 bc_1 (by decide) (by decide)
    have qe25 : zi21.toInt = zi2.toInt + 1 := by have ha : (1 : Int32).toInt = 1 := (by decide); rw [ha] at qe24; exact qe24
    refine p_put (ci := 6) (v := .int zi21) (ty := .int) (C := RX6) (T := TX6) (N := 6) hx hb hT iw_X6 tyX6 tyX6_ok nmX6 hown hK hw hS hW kd900 (by decide) rfl rfl 3 (by decide) (hT _ tb_531) (fun _ h9 => h9) rfl (by decide +kernel) rfl rfl dX6_add_36 (fun hp26 eh27 H locs hw hS => ?_)
    have ok28 := wr_7003 bd23 (by decide) (by decide) ok19 kd900 eh27
    rw [hQ]
    exact kz_v hx hb hr hlocks hS hp26 hw ⟨ok28, (Fr.put (cq := 7003) (Fr.put (cq := 38000) (Fr.put (cq := 37000) (Fr.rf) eh11 kd9 (cd_a (by decide)) (by decide)) eh18 kd15 (cd_a (by decide)) (by decide)) eh27 kd900 (cd_o (by decide)) (by decide))⟩ (Nat.le_of_ble_eq_true rfl) (Nat.le_of_ble_eq_true rfl) dX6_add_39

set_option maxRecDepth 100000 in
set_option maxHeartbeats 4000000 in
theorem cX6_takeWords_0 (l : Launch) (G : va_G) (cy : Nat → ClassId) (ev : Ew) (K ln : Nat → Nat) (Ls : List Nat) (hW : SW K ln Ls) (sz : Nat) (hp0 : Nat → Nat → Value) (ok0 : Ok K hp0) (qa900 : Nat) (qa901 : Nat) (zi902 : Int32) (kd900 : K qa900 = 7) (kd901 : K qa901 = 11) : Met l yX6_takeWords (WS yX6_takeWords cX6_takeWords 4 none) { frames := 1, cells := 0, slots := 0, locals := 23 } (PB2 [.ref qa900, .ref qa901, .int zi902] sz G cy ev (va_pl Ls (cellOf cy K ln hp0))) (QBv (S := (Nat → Nat → Value)) (fun u : (Nat → Nat → Value) => Ok K u ∧ Fr [7003, 37000, 38000] K hp0 u) G (fun u => va_pl Ls (cellOf cy K ln u)) (va_A (va_pl Ls (cellOf cy K ln hp0)) sz)) 0 0 (va_A (va_pl Ls (cellOf cy K ln hp0)) sz) := by
  refine met_of2 (y := yX6_takeWords) (L := 4) (av := [.ref qa900, .ref qa901, .int zi902]) (Qc := fun A => QBv (S := (Nat → Nat → Value)) (fun u : (Nat → Nat → Value) => Ok K u ∧ Fr [7003, 37000, 38000] K hp0 u) G (fun u => va_pl Ls (cellOf cy K ln u)) A) (plainFor_of_name (by decide)) (Nat.le_of_ble_eq_true rfl) ?_
  intro p e s m below meth c hsz hx hb hr hml hown hT hlocks hin hK A hA hE hw hS ls hl
  have hw : PW G cy K ln Ls A hp0 s.heap := hw
  have hown : s.vm.findClass "LieClock$Sets" = some m.cls := hown
  have hl : lv_has ls 4 [(0, .ref qa900), (1, .ref qa901), (2, .int zi902)] := hl
  obtain ⟨Q, hQ⟩ : ∃ Q : State → Prop, Q = MQ below (QBv (S := (Nat → Nat → Value)) (fun u : (Nat → Nat → Value) => Ok K u ∧ Fr [7003, 37000, 38000] K hp0 u) G (fun u => va_pl Ls (cellOf cy K ln u)) A) ([.ref qa900, .ref qa901, .int zi902] : List Value).toArray s 0 0 A := ⟨_, rfl⟩
  rw [← hQ]
  refine lv_aload_n hx hb dX6_takeWords_0 rfl (lv_at hl 0 rfl) ?_
  refine lv_iconst (v := 0) hx hb dX6_takeWords_1 (by decide) ?_
  refine p_put (ci := 6) (v := .int 0) (ty := .int) (C := RX6) (T := TX6) (N := 6) hx hb hT iw_X6 tyX6 tyX6_ok nmX6 hown hK hw hS hW kd900 (by decide) rfl rfl 3 (by decide) (hT _ tb_531) (fun _ h9 => h9) rfl (by decide +kernel) rfl rfl dX6_takeWords_2 (fun hp1 eh2 H locs hw hS => ?_)
  have ok3 := wr_7003 bc_0 (by decide) (by decide) ok0 kd900 eh2
  refine lv_iconst (v := 0) hx hb dX6_takeWords_5 (by decide) ?_
  refine lv_istore_n (lv' := [(3, .int 0), (0, .ref qa900), (1, .ref qa901), (2, .int zi902)]) hx hb dX6_takeWords_6 rfl hl (by decide) rfl (fun ls hl => ?_)
  have lp341 : ∀ (n339 : Nat) (hp245 : Nat → Nat → Value) (zi244 : Int32) (H : Heap) (locs : List Loc) (ls : Array Slot), 16 - zi244.toInt < (n339 : Int) → Ok K hp245 → Fr [7003, 37000, 38000] K hp1 hp245 → ((0 : Int) ≤ zi244.toInt ∧ zi244.toInt ≤ 16) → lv_has ls 4 [(0, .ref qa900), (1, .ref qa901), (2, .int zi902), (3, .int zi244)] → PW G cy K ln Ls A hp245 H → va_S A s.heap H locs → W p l e ({ frames := 1, cells := 0, slots := 0, locals := 23 } : Room) s m ([.ref qa900, .ref qa901, .int zi902] : List Value).toArray below meth c H locs 0 0 Q (F0 m 7 ls []) := by
    intro n339
    induction n339 with
    | zero =>
      intro hp245 zi244 H locs ls hm342 ok247 F246 bd248 hl hw hS
      exact absurd hm342 (by have := bd248; omega)
    | succ n339 ih340 =>
      intro hp245 zi244 H locs ls hm342 ok247 F246 bd248 hl hw hS
      refine lv_iload_n hx hb dX6_takeWords_7 rfl (lv_at hl 3 rfl) ?_
      refine lv_aload_n hx hb dX6_takeWords_8 rfl (lv_at hl 1 rfl) ?_
      obtain ⟨zi344, eq343, bd345⟩ := rd_11004 ok247 kd901
      refine p_getN (ci := 10) (v := .int zi344) (C := RX10) (T := TX10) (N := 20) hx hb hT iw_X10 hown hK hw hW kd901 (by decide) rfl rfl 4 (by decide) eq343 (hK.fl nw_93) (fun _ h9 => h9) dX6_takeWords_9 ?_
      refine lv_icmp_ge (tgt := 40) hx hb dX6_takeWords_12 (by decide) (fun cn346 => ?_) (fun cn346 => ?_)
      · skip
        rw [hQ]
        exact kz_v hx hb hr hlocks hS hp245 hw ⟨ok247, (Fr.tr (Fr.put (cq := 7003) (Fr.rf) eh2 kd900 (cd_o (by decide)) (by decide)) F246 (by decide))⟩ (Nat.le_of_ble_eq_true rfl) (Nat.le_of_ble_eq_true rfl) dX6_takeWords_40
      · skip
        have bd347 : (0 : Int) ≤ zi244.toInt ∧ zi244.toInt ≤ 15 := r_lt_x (Int32.not_le.mp cn346) bd248 bd345 (by decide) (by decide)
        have bd348 : (1 : Int) ≤ zi344.toInt ∧ zi344.toInt ≤ 16 := r_lt_y (Int32.not_le.mp cn346) bd248 bd345 (by decide) (by decide)
        refine lv_iload_n hx hb dX6_takeWords_15 rfl (lv_at hl 2 rfl) ?_
        refine lv_iload_n hx hb dX6_takeWords_16 rfl (lv_at hl 3 rfl) ?_
        refine lv_ishr hx hb dX6_takeWords_17 (lv_topi (fun zi349 ea350 => ?_))
        refine lv_iconst (v := 1) hx hb dX6_takeWords_18 (by decide) ?_
        refine lv_iand hx hb dX6_takeWords_19 (lv_topi (fun zi351 ea352 => ?_))
        have bd353 : (0 : Int) ≤ zi351.toInt ∧ zi351.toInt ≤ 1 := b_and_r ea352 bc_1 (by decide) (by decide) (by decide)
        have jn370 : ∀ (hp367 : Nat → Nat → Value)  (H : Heap) (locs : List Loc) (ls : Array Slot), Ok K hp367 → Fr [7003, 37000, 38000] K hp245 hp367 → lv_has ls 4 [(0, .ref qa900), (1, .ref qa901), (2, .int zi902), (3, .int zi244)] → PW G cy K ln Ls A hp367 H → va_S A s.heap H locs → W p l e ({ frames := 1, cells := 0, slots := 0, locals := 23 } : Room) s m ([.ref qa900, .ref qa901, .int zi902] : List Value).toArray below meth c H locs 0 0 Q (F0 m 34 ls []) := by
          intro hp367 H locs ls ok369 F368 hl hw hS
          obtain ⟨zi371, ea372⟩ : ∃ z : Int32, z = zi244 + 1 := ⟨_, rfl⟩
          have bd373 : (1 : Int) ≤ zi371.toInt ∧ zi371.toInt ≤ 16 := b_iadd ea372 bd347 bc_1 (by decide) (by decide) (by decide) (by decide)
          have qe374 : zi371.toInt = (zi244 : Int32).toInt + (1 : Int32).toInt := e_iadd ea372 bd347 bc_1 (by decide) (by decide)
          have qe375 : zi371.toInt = zi244.toInt + 1 := by have ha : (1 : Int32).toInt = 1 := (by decide); rw [ha] at qe374; exact qe374
          refine lv_iinc (v := zi371) (lv' := [(3, .int zi371), (0, .ref qa900), (1, .ref qa901), (2, .int zi902)]) hx hb dX6_takeWords_34 hl (k := 3) rfl ea372.symm (by decide) rfl (fun ls hl => ?_)
          refine lv_goto (tgt := 7) hx hb dX6_takeWords_37 (by decide) ?_
          exact ih340 hp367 zi371 _ _ ls (by have := hm342; have := qe375; omega) ok369 (Fr.tr (Fr.tr (Fr.rf) F246 (by decide)) F368 (by decide)) (b_wid2 bd373 (by decide) (by decide)) (lv_sub hl [1, 2, 3, 0] rfl) hw hS
        refine lv_if_eq (tgt := 34) hx hb dX6_takeWords_20 (by decide) (fun cn354 => ?_) (fun cn354 => ?_)
        · skip
          have bd376 : (0 : Int) ≤ zi351.toInt ∧ zi351.toInt ≤ 0 := r_eq_x cn354 bd353 bc_0 (by decide) (by decide)
          exact jn370 hp245 _ _ ls ok247 (Fr.rf) (lv_sub hl [0, 1, 2, 3] rfl) hw hS
        · skip
          have bd377 : (1 : Int) ≤ zi351.toInt ∧ zi351.toInt ≤ 1 := r_ne_lo cn354 bd353 (toi bc_0) (by decide) (by decide)
          refine lv_aload_n hx hb dX6_takeWords_23 rfl (lv_at hl 0 rfl) ?_
          refine lv_iload_n hx hb dX6_takeWords_24 rfl (lv_at hl 3 rfl) ?_
          refine lv_aload_n hx hb dX6_takeWords_25 rfl (lv_at hl 1 rfl) ?_
          obtain ⟨qa379, eq378, kd380⟩ := rd_11014 ok247 kd901
          refine p_getN (ci := 10) (v := .ref qa379) (C := RX10) (T := TX10) (N := 20) hx hb hT iw_X10 hown hK hw hW kd901 (by decide) rfl rfl 14 (by decide) eq378 (hK.fl nw_127) (fun _ h9 => h9) dX6_takeWords_26 ?_
          refine lv_iload_n hx hb dX6_takeWords_29 rfl (lv_at hl 3 rfl) ?_
          obtain ⟨wl382, eq381⟩ := rd_52000 ok247 kd380 ((zi244 : Int32).toNatClampNeg)
          refine p_lald (v := wl382) hx hb hK hw hW kd380 (by decide) rfl (hW.len kd380 (n := 16) rfl (by decide)) (vp_b bd347 (by decide) (by decide)) eq381 dX6_takeWords_30 ?_
          refine kq_v hw hS hA (va_runV (As := [.int zi244, .long wl382]) (rest := []) ⟨hx, hb, hml, hown, hT⟩ (cX6_add_0 l G cy ev K ln Ls hW _ hp245 ok247 qa900 zi244 wl382 kd900) (cwV 2 hT (good_V tb_1263 tb_1260 tb_1262 tb_42 tb_118) rfl rfl rfl (by decide +kernel) ⟨Nat.le_of_ble_eq_true rfl, Nat.le_of_ble_eq_true rfl⟩) (pool_preV (ci := 6) hK hE hS hA hw hW kd900 (by decide) rfl) rfl rfl hl.1 rfl (lv_room (Nat.le_of_ble_eq_true rfl)) dX6_takeWords_31 ⟨Nat.le_of_ble_eq_true rfl, Nat.le_of_ble_eq_true rfl⟩) (fun hp383 H locs hq386 hw hS => ?_)
          obtain ⟨ok384, F385⟩ := hq386
          have hw : PW G cy K ln Ls A hp383 H := hw
          exact jn370 hp383 _ _ ls ok384 (Fr.tr (Fr.rf) F385 (by decide)) (lv_sub hl [0, 1, 2, 3] rfl) hw hS
  exact lp341 _ hp1 0 _ _ ls (lp_in _) ok3 (Fr.rf) (b_wid2 bc_0 (by decide) (by decide)) (lv_sub hl [1, 2, 3, 0] rfl) hw hS

set_option maxRecDepth 100000 in
set_option maxHeartbeats 4000000 in
theorem cX6_takeFacts_0 (l : Launch) (G : va_G) (cy : Nat → ClassId) (ev : Ew) (K ln : Nat → Nat) (Ls : List Nat) (hW : SW K ln Ls) (sz : Nat) (hp0 : Nat → Nat → Value) (ok0 : Ok K hp0) (qa900 : Nat) (qa901 : Nat) (zi902 : Int32) (kd900 : K qa900 = 7) (kd901 : K qa901 = 11) : Met l yX6_takeFacts (WS yX6_takeFacts cX6_takeFacts 4 none) { frames := 1, cells := 0, slots := 0, locals := 23 } (PB2 [.ref qa900, .ref qa901, .int zi902] sz G cy ev (va_pl Ls (cellOf cy K ln hp0))) (QBv (S := (Nat → Nat → Value)) (fun u : (Nat → Nat → Value) => Ok K u ∧ Fr [7003, 37000, 38000] K hp0 u) G (fun u => va_pl Ls (cellOf cy K ln u)) (va_A (va_pl Ls (cellOf cy K ln hp0)) sz)) 0 0 (va_A (va_pl Ls (cellOf cy K ln hp0)) sz) := by
  refine met_of2 (y := yX6_takeFacts) (L := 4) (av := [.ref qa900, .ref qa901, .int zi902]) (Qc := fun A => QBv (S := (Nat → Nat → Value)) (fun u : (Nat → Nat → Value) => Ok K u ∧ Fr [7003, 37000, 38000] K hp0 u) G (fun u => va_pl Ls (cellOf cy K ln u)) A) (plainFor_of_name (by decide)) (Nat.le_of_ble_eq_true rfl) ?_
  intro p e s m below meth c hsz hx hb hr hml hown hT hlocks hin hK A hA hE hw hS ls hl
  have hw : PW G cy K ln Ls A hp0 s.heap := hw
  have hown : s.vm.findClass "LieClock$Sets" = some m.cls := hown
  have hl : lv_has ls 4 [(0, .ref qa900), (1, .ref qa901), (2, .int zi902)] := hl
  obtain ⟨Q, hQ⟩ : ∃ Q : State → Prop, Q = MQ below (QBv (S := (Nat → Nat → Value)) (fun u : (Nat → Nat → Value) => Ok K u ∧ Fr [7003, 37000, 38000] K hp0 u) G (fun u => va_pl Ls (cellOf cy K ln u)) A) ([.ref qa900, .ref qa901, .int zi902] : List Value).toArray s 0 0 A := ⟨_, rfl⟩
  rw [← hQ]
  refine lv_aload_n hx hb dX6_takeFacts_0 rfl (lv_at hl 0 rfl) ?_
  refine lv_iconst (v := 0) hx hb dX6_takeFacts_1 (by decide) ?_
  refine p_put (ci := 6) (v := .int 0) (ty := .int) (C := RX6) (T := TX6) (N := 6) hx hb hT iw_X6 tyX6 tyX6_ok nmX6 hown hK hw hS hW kd900 (by decide) rfl rfl 3 (by decide) (hT _ tb_531) (fun _ h9 => h9) rfl (by decide +kernel) rfl rfl dX6_takeFacts_2 (fun hp1 eh2 H locs hw hS => ?_)
  have ok3 := wr_7003 bc_0 (by decide) (by decide) ok0 kd900 eh2
  refine lv_iconst (v := 0) hx hb dX6_takeFacts_5 (by decide) ?_
  refine lv_istore_n (lv' := [(3, .int 0), (0, .ref qa900), (1, .ref qa901), (2, .int zi902)]) hx hb dX6_takeFacts_6 rfl hl (by decide) rfl (fun ls hl => ?_)
  have lp341 : ∀ (n339 : Nat) (hp245 : Nat → Nat → Value) (zi244 : Int32) (H : Heap) (locs : List Loc) (ls : Array Slot), 6 - zi244.toInt < (n339 : Int) → Ok K hp245 → Fr [7003, 37000, 38000] K hp1 hp245 → ((0 : Int) ≤ zi244.toInt ∧ zi244.toInt ≤ 6) → lv_has ls 4 [(0, .ref qa900), (1, .ref qa901), (2, .int zi902), (3, .int zi244)] → PW G cy K ln Ls A hp245 H → va_S A s.heap H locs → W p l e ({ frames := 1, cells := 0, slots := 0, locals := 23 } : Room) s m ([.ref qa900, .ref qa901, .int zi902] : List Value).toArray below meth c H locs 0 0 Q (F0 m 7 ls []) := by
    intro n339
    induction n339 with
    | zero =>
      intro hp245 zi244 H locs ls hm342 ok247 F246 bd248 hl hw hS
      exact absurd hm342 (by have := bd248; omega)
    | succ n339 ih340 =>
      intro hp245 zi244 H locs ls hm342 ok247 F246 bd248 hl hw hS
      refine lv_iload_n hx hb dX6_takeFacts_7 rfl (lv_at hl 3 rfl) ?_
      refine lv_aload_n hx hb dX6_takeFacts_8 rfl (lv_at hl 1 rfl) ?_
      obtain ⟨zi344, eq343, bd345⟩ := rd_11000 ok247 kd901
      refine p_getN (ci := 10) (v := .int zi344) (C := RX10) (T := TX10) (N := 20) hx hb hT iw_X10 hown hK hw hW kd901 (by decide) rfl rfl 0 (by decide) eq343 (hK.fl nw_81) (fun _ h9 => h9) dX6_takeFacts_9 ?_
      refine lv_icmp_ge (tgt := 39) hx hb dX6_takeFacts_12 (by decide) (fun cn346 => ?_) (fun cn346 => ?_)
      · skip
        rw [hQ]
        exact kz_v hx hb hr hlocks hS hp245 hw ⟨ok247, (Fr.tr (Fr.put (cq := 7003) (Fr.rf) eh2 kd900 (cd_o (by decide)) (by decide)) F246 (by decide))⟩ (Nat.le_of_ble_eq_true rfl) (Nat.le_of_ble_eq_true rfl) dX6_takeFacts_39
      · skip
        have bd347 : (0 : Int) ≤ zi244.toInt ∧ zi244.toInt ≤ 5 := r_lt_x (Int32.not_le.mp cn346) bd248 bd345 (by decide) (by decide)
        have bd348 : (1 : Int) ≤ zi344.toInt ∧ zi344.toInt ≤ 6 := r_lt_y (Int32.not_le.mp cn346) bd248 bd345 (by decide) (by decide)
        refine lv_iload_n hx hb dX6_takeFacts_15 rfl (lv_at hl 2 rfl) ?_
        refine lv_iload_n hx hb dX6_takeFacts_16 rfl (lv_at hl 3 rfl) ?_
        refine lv_ishr hx hb dX6_takeFacts_17 (lv_topi (fun zi349 ea350 => ?_))
        refine lv_iconst (v := 1) hx hb dX6_takeFacts_18 (by decide) ?_
        refine lv_iand hx hb dX6_takeFacts_19 (lv_topi (fun zi351 ea352 => ?_))
        have bd353 : (0 : Int) ≤ zi351.toInt ∧ zi351.toInt ≤ 1 := b_and_r ea352 bc_1 (by decide) (by decide) (by decide)
        have jn370 : ∀ (hp367 : Nat → Nat → Value)  (H : Heap) (locs : List Loc) (ls : Array Slot), Ok K hp367 → Fr [7003, 37000, 38000] K hp245 hp367 → lv_has ls 4 [(0, .ref qa900), (1, .ref qa901), (2, .int zi902), (3, .int zi244)] → PW G cy K ln Ls A hp367 H → va_S A s.heap H locs → W p l e ({ frames := 1, cells := 0, slots := 0, locals := 23 } : Room) s m ([.ref qa900, .ref qa901, .int zi902] : List Value).toArray below meth c H locs 0 0 Q (F0 m 33 ls []) := by
          intro hp367 H locs ls ok369 F368 hl hw hS
          obtain ⟨zi371, ea372⟩ : ∃ z : Int32, z = zi244 + 1 := ⟨_, rfl⟩
          have bd373 : (1 : Int) ≤ zi371.toInt ∧ zi371.toInt ≤ 6 := b_iadd ea372 bd347 bc_1 (by decide) (by decide) (by decide) (by decide)
          have qe374 : zi371.toInt = (zi244 : Int32).toInt + (1 : Int32).toInt := e_iadd ea372 bd347 bc_1 (by decide) (by decide)
          have qe375 : zi371.toInt = zi244.toInt + 1 := by have ha : (1 : Int32).toInt = 1 := (by decide); rw [ha] at qe374; exact qe374
          refine lv_iinc (v := zi371) (lv' := [(3, .int zi371), (0, .ref qa900), (1, .ref qa901), (2, .int zi902)]) hx hb dX6_takeFacts_33 hl (k := 3) rfl ea372.symm (by decide) rfl (fun ls hl => ?_)
          refine lv_goto (tgt := 7) hx hb dX6_takeFacts_36 (by decide) ?_
          exact ih340 hp367 zi371 _ _ ls (by have := hm342; have := qe375; omega) ok369 (Fr.tr (Fr.tr (Fr.rf) F246 (by decide)) F368 (by decide)) (b_wid2 bd373 (by decide) (by decide)) (lv_sub hl [1, 2, 3, 0] rfl) hw hS
        refine lv_if_ne (tgt := 33) hx hb dX6_takeFacts_20 (by decide) (fun cn354 => ?_) (fun cn354 => ?_)
        · skip
          have bd376 : (1 : Int) ≤ zi351.toInt ∧ zi351.toInt ≤ 1 := r_ne_lo cn354 bd353 (toi bc_0) (by decide) (by decide)
          exact jn370 hp245 _ _ ls ok247 (Fr.rf) (lv_sub hl [0, 1, 2, 3] rfl) hw hS
        · skip
          have bd377 : (0 : Int) ≤ zi351.toInt ∧ zi351.toInt ≤ 0 := r_eq_x cn354 bd353 bc_0 (by decide) (by decide)
          refine lv_aload_n hx hb dX6_takeFacts_23 rfl (lv_at hl 0 rfl) ?_
          refine lv_iload_n hx hb dX6_takeFacts_24 rfl (lv_at hl 3 rfl) ?_
          refine lv_aload_n hx hb dX6_takeFacts_25 rfl (lv_at hl 1 rfl) ?_
          refine lv_iload_n hx hb dX6_takeFacts_26 rfl (lv_at hl 3 rfl) ?_
          refine kq_l hw hS hA (va_runV (As := [.int zi244]) (rest := [.int zi244, .ref qa900]) ⟨hx, hb, hml, hown, hT⟩ (cX10_asItIs_0 l G cy ev K ln Ls hW _ hp245 ok247 qa901 zi244 kd901) (cwV 1 hT (good_V tb_478 tb_1290 tb_476 tb_477 tb_107) rfl rfl rfl (by decide +kernel) ⟨Nat.le_of_ble_eq_true rfl, Nat.le_of_ble_eq_true rfl⟩) (pool_preV (ci := 10) hK hE hS hA hw hW kd901 (by decide) rfl) rfl rfl hl.1 rfl (lv_room (Nat.le_of_ble_eq_true rfl)) dX6_takeFacts_27 ⟨Nat.le_of_ble_eq_true rfl, Nat.le_of_ble_eq_true rfl⟩) (fun wl382 hp378 H locs hq381 hw hS => ?_)
          obtain ⟨ok379, F380⟩ := hq381
          obtain rfl : hp245 = hp378 := (Fr.nil F380).symm
          have hw : PW G cy K ln Ls A hp245 H := hw
          refine kq_v hw hS hA (va_runV (As := [.int zi244, .long wl382]) (rest := []) ⟨hx, hb, hml, hown, hT⟩ (cX6_add_0 l G cy ev K ln Ls hW _ hp245 ok247 qa900 zi244 wl382 kd900) (cwV 2 hT (good_V tb_1263 tb_1260 tb_1262 tb_42 tb_118) rfl rfl rfl (by decide +kernel) ⟨Nat.le_of_ble_eq_true rfl, Nat.le_of_ble_eq_true rfl⟩) (pool_preV (ci := 6) hK hE hS hA hw hW kd900 (by decide) rfl) rfl rfl hl.1 rfl (lv_room (Nat.le_of_ble_eq_true rfl)) dX6_takeFacts_30 ⟨Nat.le_of_ble_eq_true rfl, Nat.le_of_ble_eq_true rfl⟩) (fun hp383 H locs hq386 hw hS => ?_)
          obtain ⟨ok384, F385⟩ := hq386
          have hw : PW G cy K ln Ls A hp383 H := hw
          exact jn370 hp383 _ _ ls ok384 (Fr.tr (Fr.rf) F385 (by decide)) (lv_sub hl [0, 1, 2, 3] rfl) hw hS
  exact lp341 _ hp1 0 _ _ ls (lp_in _) ok3 (Fr.rf) (b_wid2 bc_0 (by decide) (by decide)) (lv_sub hl [1, 2, 3, 0] rfl) hw hS

set_option maxRecDepth 100000 in
set_option maxHeartbeats 4000000 in
theorem cX6_isEnough_0 (l : Launch) (G : va_G) (cy : Nat → ClassId) (ev : Ew) (K ln : Nat → Nat) (Ls : List Nat) (hW : SW K ln Ls) (sz : Nat) (hp0 : Nat → Nat → Value) (ok0 : Ok K hp0) (qa900 : Nat) (wl901 : Int64) (kd900 : K qa900 = 7) : Met l yX6_isEnough (WS yX6_isEnough cX6_isEnough 3 (some .boolean)) { frames := 0, cells := 0, slots := 0, locals := 0 } (PB2 [.ref qa900, .long wl901] sz G cy ev (va_pl Ls (cellOf cy K ln hp0))) (QBi (S := (Nat → Nat → Value)) (fun (r : Int32) (u : (Nat → Nat → Value)) => Ok K u ∧ Fr [] K hp0 u ∧ ((0 : Int) ≤ r.toInt ∧ r.toInt ≤ 1)) G (fun u => va_pl Ls (cellOf cy K ln u)) (va_A (va_pl Ls (cellOf cy K ln hp0)) sz)) 0 0 (va_A (va_pl Ls (cellOf cy K ln hp0)) sz) := by
  refine met_of2 (y := yX6_isEnough) (L := 3) (av := [.ref qa900, .long wl901]) (Qc := fun A => QBi (S := (Nat → Nat → Value)) (fun (r : Int32) (u : (Nat → Nat → Value)) => Ok K u ∧ Fr [] K hp0 u ∧ ((0 : Int) ≤ r.toInt ∧ r.toInt ≤ 1)) G (fun u => va_pl Ls (cellOf cy K ln u)) A) (plainFor_of_name (by decide)) (Nat.le_of_ble_eq_true rfl) ?_
  intro p e s m below meth c hsz hx hb hr hml hown hT hlocks hin hK A hA hE hw hS ls hl
  have hw : PW G cy K ln Ls A hp0 s.heap := hw
  have hown : s.vm.findClass "LieClock$Sets" = some m.cls := hown
  have hl : lv_has ls 3 [(0, .ref qa900), (1, .long wl901)] := hl
  obtain ⟨Q, hQ⟩ : ∃ Q : State → Prop, Q = MQ below (QBi (S := (Nat → Nat → Value)) (fun (r : Int32) (u : (Nat → Nat → Value)) => Ok K u ∧ Fr [] K hp0 u ∧ ((0 : Int) ≤ r.toInt ∧ r.toInt ≤ 1)) G (fun u => va_pl Ls (cellOf cy K ln u)) A) ([.ref qa900, .long wl901] : List Value).toArray s 0 0 A := ⟨_, rfl⟩
  rw [← hQ]
  refine lv_lload_n hx hb dX6_isEnough_0 rfl (lv_at hl 1 rfl) ?_
  refine lv_aload_n hx hb dX6_isEnough_1 rfl (lv_at hl 0 rfl) ?_
  obtain ⟨wl2, eq1⟩ := rd_7004 ok0 kd900
  refine p_get (ci := 6) (v := .long wl2) (C := RX6) (T := TX6) (N := 6) hx hb hT iw_X6 hown hK hw hW kd900 (by decide) rfl rfl 4 (by decide) eq1 (hT _ tb_532) (fun _ h9 => h9) dX6_isEnough_2 ?_
  refine lv_land hx hb dX6_isEnough_5 (lv_topl (fun wl3 _ => ?_))
  refine lv_lconst (v := 0) hx hb dX6_isEnough_6 (by decide) ?_
  refine W.lcmp hx hb dX6_isEnough_7 (lv_topi (fun zi4 ea5 => ?_))
  refine lv_if_eq (tgt := 22) hx hb dX6_isEnough_8 (by decide) (fun cn6 => ?_) (fun cn6 => ?_)
  · skip
    have bd7 : (0 : Int) ≤ zi4.toInt ∧ zi4.toInt ≤ 0 := r_eq_x cn6 (b_all zi4) bc_0 (by decide) (by decide)
    refine lv_iconst (v := 1) hx hb dX6_isEnough_22 (by decide) ?_
    refine lv_goto (tgt := 27) hx hb dX6_isEnough_23 (by decide) ?_
    rw [hQ]
    exact kz_i hx hb hr hlocks hS (nz_n bc_1 (by decide) (by decide)) hp0 hw ⟨ok0, (Fr.rf), (b_wid2 bc_1 (by decide) (by decide))⟩ (Nat.le_of_ble_eq_true rfl) (Nat.le_of_ble_eq_true rfl) dX6_isEnough_27
  · skip
    refine lv_lload_n hx hb dX6_isEnough_11 rfl (lv_at hl 1 rfl) ?_
    refine lv_aload_n hx hb dX6_isEnough_12 rfl (lv_at hl 0 rfl) ?_
    obtain ⟨wl9, eq8⟩ := rd_7005 ok0 kd900
    refine p_get (ci := 6) (v := .long wl9) (C := RX6) (T := TX6) (N := 6) hx hb hT iw_X6 hown hK hw hW kd900 (by decide) rfl rfl 5 (by decide) eq8 (hT _ tb_533) (fun _ h9 => h9) dX6_isEnough_13 ?_
    refine lv_land hx hb dX6_isEnough_16 (lv_topl (fun wl10 _ => ?_))
    refine lv_lconst (v := 0) hx hb dX6_isEnough_17 (by decide) ?_
    refine W.lcmp hx hb dX6_isEnough_18 (lv_topi (fun zi11 ea12 => ?_))
    refine lv_if_ne (tgt := 26) hx hb dX6_isEnough_19 (by decide) (fun cn13 => ?_) (fun cn13 => ?_)
    · skip
      refine lv_iconst (v := 0) hx hb dX6_isEnough_26 (by decide) ?_
      rw [hQ]
      exact kz_i hx hb hr hlocks hS (nz_n bc_0 (by decide) (by decide)) hp0 hw ⟨ok0, (Fr.rf), (b_wid2 bc_0 (by decide) (by decide))⟩ (Nat.le_of_ble_eq_true rfl) (Nat.le_of_ble_eq_true rfl) dX6_isEnough_27
    · skip
      have bd14 : (0 : Int) ≤ zi11.toInt ∧ zi11.toInt ≤ 0 := r_eq_x cn13 (b_all zi11) bc_0 (by decide) (by decide)
      refine lv_iconst (v := 1) hx hb dX6_isEnough_22 (by decide) ?_
      refine lv_goto (tgt := 27) hx hb dX6_isEnough_23 (by decide) ?_
      rw [hQ]
      exact kz_i hx hb hr hlocks hS (nz_n bc_1 (by decide) (by decide)) hp0 hw ⟨ok0, (Fr.rf), (b_wid2 bc_1 (by decide) (by decide))⟩ (Nat.le_of_ble_eq_true rfl) (Nat.le_of_ble_eq_true rfl) dX6_isEnough_27

set_option maxRecDepth 100000 in
set_option maxHeartbeats 4000000 in
theorem cX6_pick_0 (l : Launch) (G : va_G) (cy : Nat → ClassId) (ev : Ew) (K ln : Nat → Nat) (Ls : List Nat) (hW : SW K ln Ls) (sz : Nat) (hp0 : Nat → Nat → Value) (ok0 : Ok K hp0) (qa900 : Nat) (zi901 : Int32) (zi902 : Int32) (wl903 : Int64) (kd900 : K qa900 = 7) (bd901 : ((1 : Int) ≤ zi901.toInt ∧ zi901.toInt ≤ 1)) : Met l yX6_pick (WS yX6_pick cX6_pick 9 (some .int)) { frames := 1, cells := 0, slots := 0, locals := 22 } (PB2 [.ref qa900, .int zi901, .int zi902, .long wl903] sz G cy ev (va_pl Ls (cellOf cy K ln hp0))) (QBi (S := (Nat → Nat → Value)) (fun (r : Int32) (u : (Nat → Nat → Value)) => Ok K u ∧ Fr [] K hp0 u) G (fun u => va_pl Ls (cellOf cy K ln u)) (va_A (va_pl Ls (cellOf cy K ln hp0)) sz)) 0 0 (va_A (va_pl Ls (cellOf cy K ln hp0)) sz) := by
  refine met_of2 (y := yX6_pick) (L := 9) (av := [.ref qa900, .int zi901, .int zi902, .long wl903]) (Qc := fun A => QBi (S := (Nat → Nat → Value)) (fun (r : Int32) (u : (Nat → Nat → Value)) => Ok K u ∧ Fr [] K hp0 u) G (fun u => va_pl Ls (cellOf cy K ln u)) A) (plainFor_of_name (by decide)) (Nat.le_of_ble_eq_true rfl) ?_
  intro p e s m below meth c hsz hx hb hr hml hown hT hlocks hin hK A hA hE hw hS ls hl
  have hw : PW G cy K ln Ls A hp0 s.heap := hw
  have hown : s.vm.findClass "LieClock$Sets" = some m.cls := hown
  have hl : lv_has ls 9 [(0, .ref qa900), (1, .int zi901), (2, .int zi902), (3, .long wl903)] := hl
  obtain ⟨Q, hQ⟩ : ∃ Q : State → Prop, Q = MQ below (QBi (S := (Nat → Nat → Value)) (fun (r : Int32) (u : (Nat → Nat → Value)) => Ok K u ∧ Fr [] K hp0 u) G (fun u => va_pl Ls (cellOf cy K ln u)) A) ([.ref qa900, .int zi901, .int zi902, .long wl903] : List Value).toArray s 0 0 A := ⟨_, rfl⟩
  rw [← hQ]
  refine lv_iload_n hx hb dX6_pick_0 rfl (lv_at hl 1 rfl) ?_
  refine lv_iconst (v := 1) hx hb dX6_pick_1 (by decide) ?_
  refine lv_isub hx hb dX6_pick_2 (lv_topi (fun zi1 ea2 => ?_))
  have bd3 : (0 : Int) ≤ zi1.toInt ∧ zi1.toInt ≤ 0 := b_isub ea2 bd901 bc_1 (by decide) (by decide) (by decide) (by decide)
  have qe4 : zi1.toInt = (zi901 : Int32).toInt - (1 : Int32).toInt := e_isub ea2 bd901 bc_1 (by decide) (by decide)
  have qe5 : zi1.toInt = zi901.toInt - 1 := by have ha : (1 : Int32).toInt = 1 := (by decide); rw [ha] at qe4; exact qe4
  refine lv_istore (lv' := [(5, .int zi1), (0, .ref qa900), (1, .int zi901), (2, .int zi902), (3, .long wl903)]) hx hb dX6_pick_3 hl (by decide) rfl (fun ls hl => ?_)
  have lp270 : ∀ (n268 : Nat) (zi194 : Int32) (H : Heap) (locs : List Loc) (ls : Array Slot), 16 - zi194.toInt < (n268 : Int) → ((0 : Int) ≤ zi194.toInt ∧ zi194.toInt ≤ 16) → lv_has ls 9 [(0, .ref qa900), (1, .int zi901), (2, .int zi902), (3, .long wl903), (5, .int zi194)] → PW G cy K ln Ls A hp0 H → va_S A s.heap H locs → W p l e ({ frames := 1, cells := 0, slots := 0, locals := 22 } : Room) s m ([.ref qa900, .int zi901, .int zi902, .long wl903] : List Value).toArray below meth c H locs 0 0 Q (F0 m 5 ls []) := by
    intro n268
    induction n268 with
    | zero =>
      intro zi194 H locs ls hm271 bd195 hl hw hS
      exact absurd hm271 (by have := bd195; omega)
    | succ n268 ih269 =>
      intro zi194 H locs ls hm271 bd195 hl hw hS
      refine lv_iload hx hb dX6_pick_5 (lv_at hl 4 rfl) ?_
      refine lv_if_lt (tgt := 114) hx hb dX6_pick_7 (by decide) (fun c => absurd c (d_nlt bd195 bc_0 (by decide))) (fun _ => ?_)
      refine lv_iload hx hb dX6_pick_10 (lv_at hl 4 rfl) ?_
      refine lv_iload_n hx hb dX6_pick_12 rfl (lv_at hl 2 rfl) ?_
      refine lv_icmp_ge (tgt := 114) hx hb dX6_pick_13 (by decide) (fun cn272 => ?_) (fun cn272 => ?_)
      · skip
        have bd273 : (-2147483648 : Int) ≤ zi902.toInt ∧ zi902.toInt ≤ 16 := r_le_x cn272 (b_all zi902) bd195 (by decide) (by decide)
        refine lv_iconst (v := 0) hx hb dX6_pick_114 (by decide) ?_
        rw [hQ]
        exact kz_i hx hb hr hlocks hS rfl hp0 hw ⟨ok0, (Fr.rf)⟩ (Nat.le_of_ble_eq_true rfl) (Nat.le_of_ble_eq_true rfl) dX6_pick_115
      · skip
        have bd274 : (1 : Int) ≤ zi902.toInt ∧ zi902.toInt ≤ 2147483647 := r_lt_y (Int32.not_le.mp cn272) bd195 (b_all zi902) (by decide) (by decide)
        refine lv_iload hx hb dX6_pick_16 (lv_at hl 4 rfl) ?_
        refine lv_aload_n hx hb dX6_pick_18 rfl (lv_at hl 0 rfl) ?_
        obtain ⟨zi276, eq275, bd277⟩ := rd_7003 ok0 kd900
        refine p_get (ci := 6) (v := .int zi276) (C := RX6) (T := TX6) (N := 6) hx hb hT iw_X6 hown hK hw hW kd900 (by decide) rfl rfl 3 (by decide) eq275 (hT _ tb_531) (fun _ h9 => h9) dX6_pick_19 ?_
        refine lv_icmp_ge (tgt := 114) hx hb dX6_pick_22 (by decide) (fun cn278 => ?_) (fun cn278 => ?_)
        · skip
          refine lv_iconst (v := 0) hx hb dX6_pick_114 (by decide) ?_
          rw [hQ]
          exact kz_i hx hb hr hlocks hS rfl hp0 hw ⟨ok0, (Fr.rf)⟩ (Nat.le_of_ble_eq_true rfl) (Nat.le_of_ble_eq_true rfl) dX6_pick_115
        · skip
          have bd279 : (0 : Int) ≤ zi194.toInt ∧ zi194.toInt ≤ 15 := r_lt_x (Int32.not_le.mp cn278) bd195 bd277 (by decide) (by decide)
          have bd280 : (1 : Int) ≤ zi276.toInt ∧ zi276.toInt ≤ 16 := r_lt_y (Int32.not_le.mp cn278) bd195 bd277 (by decide) (by decide)
          refine lv_lload_n hx hb dX6_pick_25 rfl (lv_at hl 3 rfl) ?_
          refine lv_aload_n hx hb dX6_pick_26 rfl (lv_at hl 0 rfl) ?_
          obtain ⟨qa282, eq281, kd283⟩ := rd_7000 ok0 kd900
          refine p_get (ci := 6) (v := .ref qa282) (C := RX6) (T := TX6) (N := 6) hx hb hT iw_X6 hown hK hw hW kd900 (by decide) rfl rfl 0 (by decide) eq281 (hT _ tb_528) (fun _ h9 => h9) dX6_pick_27 ?_
          refine lv_iload hx hb dX6_pick_30 (lv_at hl 4 rfl) ?_
          obtain ⟨wl285, eq284⟩ := rd_37000 ok0 kd283 ((zi194 : Int32).toNatClampNeg)
          refine p_lald (v := wl285) hx hb hK hw hW kd283 (by decide) rfl (hW.len kd283 (n := 16) rfl (by decide)) (vp_b bd279 (by decide) (by decide)) eq284 dX6_pick_32 ?_
          refine lv_land hx hb dX6_pick_33 (lv_topl (fun wl286 _ => ?_))
          refine lv_lstore (lv' := [(6, .long wl286), (0, .ref qa900), (1, .int zi901), (2, .int zi902), (3, .long wl903), (5, .int zi194)]) hx hb dX6_pick_34 hl (by decide) rfl (fun ls hl => ?_)
          refine lv_iload_n hx hb dX6_pick_36 rfl (lv_at hl 2 rfl) ?_
          refine lv_iconst (v := 1) hx hb dX6_pick_37 (by decide) ?_
          refine lv_icmp_ne (tgt := 60) hx hb dX6_pick_38 (by decide) (fun c => absurd (d_eq bd901 bc_1) c) (fun _ => ?_)
          refine lv_aload_n hx hb dX6_pick_41 rfl (lv_at hl 1 rfl) ?_
          refine lv_lload hx hb dX6_pick_42 (lv_at hl 0 rfl) ?_
          refine kq_i hw hS hA (va_runV (As := [.long wl286]) (rest := []) ⟨hx, hb, hml, hown, hT⟩ (cX6_isEnough_0 l G cy ev K ln Ls hW _ hp0 ok0 qa900 wl286 kd900) (cwV 1 hT (good_V tb_1272 tb_1269 tb_1271 tb_43 tb_118) rfl rfl rfl (by decide +kernel) ⟨Nat.le_of_ble_eq_true rfl, Nat.le_of_ble_eq_true rfl⟩) (pool_preV (ci := 6) hK hE hS hA hw hW kd900 (by decide) rfl) rfl rfl hl.1 rfl (lv_room (Nat.le_of_ble_eq_true rfl)) dX6_pick_44 ⟨Nat.le_of_ble_eq_true rfl, Nat.le_of_ble_eq_true rfl⟩) (fun zi291 hp287 H locs hq290 hw hS => ?_)
          obtain ⟨ok288, F289, bd292⟩ := hq290
          obtain rfl : hp0 = hp287 := (Fr.nil F289).symm
          have hw : PW G cy K ln Ls A hp0 H := hw
          refine lv_if_eq (tgt := 108) hx hb dX6_pick_47 (by decide) (fun cn293 => ?_) (fun cn293 => ?_)
          · skip
            have bd294 : (0 : Int) ≤ zi291.toInt ∧ zi291.toInt ≤ 0 := r_eq_x cn293 bd292 bc_0 (by decide) (by decide)
            obtain ⟨zi295, ea296⟩ : ∃ z : Int32, z = zi194 + 1 := ⟨_, rfl⟩
            have bd297 : (1 : Int) ≤ zi295.toInt ∧ zi295.toInt ≤ 16 := b_iadd ea296 bd279 bc_1 (by decide) (by decide) (by decide) (by decide)
            have qe298 : zi295.toInt = (zi194 : Int32).toInt + (1 : Int32).toInt := e_iadd ea296 bd279 bc_1 (by decide) (by decide)
            have qe299 : zi295.toInt = zi194.toInt + 1 := by have ha : (1 : Int32).toInt = 1 := (by decide); rw [ha] at qe298; exact qe298
            refine lv_iinc (v := zi295) (lv' := [(5, .int zi295), (6, .long wl286), (0, .ref qa900), (1, .int zi901), (2, .int zi902), (3, .long wl903)]) hx hb dX6_pick_108 hl (k := 5) rfl ea296.symm (by decide) rfl (fun ls hl => ?_)
            refine lv_goto (tgt := 5) hx hb dX6_pick_111 (by decide) ?_
            exact ih269 zi295 _ _ ls (by have := hm271; have := qe299; omega) (b_wid2 bd297 (by decide) (by decide)) (lv_sub hl [2, 3, 4, 5, 0] rfl) hw hS
          · skip
            have bd300 : (1 : Int) ≤ zi291.toInt ∧ zi291.toInt ≤ 1 := r_ne_lo cn293 bd292 (toi bc_0) (by decide) (by decide)
            refine lv_iconst (v := 1) hx hb dX6_pick_50 (by decide) ?_
            refine lv_aload_n hx hb dX6_pick_51 rfl (lv_at hl 1 rfl) ?_
            obtain ⟨qa302, eq301, kd303⟩ := rd_7001 ok0 kd900
            refine p_get (ci := 6) (v := .ref qa302) (C := RX6) (T := TX6) (N := 6) hx hb hT iw_X6 hown hK hw hW kd900 (by decide) rfl rfl 1 (by decide) eq301 (hT _ tb_529) (fun _ h9 => h9) dX6_pick_52 ?_
            refine lv_iload hx hb dX6_pick_55 (lv_at hl 5 rfl) ?_
            obtain ⟨zi305, eq304⟩ := rd_38000 ok0 kd303 ((zi194 : Int32).toNatClampNeg)
            refine p_iald (v := zi305) hx hb hK hw hW kd303 (by decide) rfl (hW.len kd303 (n := 16) rfl (by decide)) (vp_b bd279 (by decide) (by decide)) eq304 dX6_pick_57 ?_
            refine lv_ishl hx hb dX6_pick_58 (lv_topi (fun zi306 ea307 => ?_))
            rw [hQ]
            exact kz_i hx hb hr hlocks hS rfl hp0 hw ⟨ok0, (Fr.rf)⟩ (Nat.le_of_ble_eq_true rfl) (Nat.le_of_ble_eq_true rfl) dX6_pick_59
  exact lp270 _ zi1 _ _ ls (lp_in _) (b_wid2 bd3 (by decide) (by decide)) (lv_sub hl [1, 2, 3, 4, 0] rfl) hw hS

set_option maxRecDepth 100000 in
set_option maxHeartbeats 4000000 in
theorem cX6_pick_1 (l : Launch) (G : va_G) (cy : Nat → ClassId) (ev : Ew) (K ln : Nat → Nat) (Ls : List Nat) (hW : SW K ln Ls) (sz : Nat) (hp0 : Nat → Nat → Value) (ok0 : Ok K hp0) (qa900 : Nat) (zi901 : Int32) (zi902 : Int32) (wl903 : Int64) (kd900 : K qa900 = 7) (bd901 : ((1 : Int) ≤ zi901.toInt ∧ zi901.toInt ≤ 2)) : Met l yX6_pick (WS yX6_pick cX6_pick 9 (some .int)) { frames := 2, cells := 0, slots := 0, locals := 50 } (PB2 [.ref qa900, .int zi901, .int zi902, .long wl903] sz G cy ev (va_pl Ls (cellOf cy K ln hp0))) (QBi (S := (Nat → Nat → Value)) (fun (r : Int32) (u : (Nat → Nat → Value)) => Ok K u ∧ Fr [] K hp0 u) G (fun u => va_pl Ls (cellOf cy K ln u)) (va_A (va_pl Ls (cellOf cy K ln hp0)) sz)) 0 0 (va_A (va_pl Ls (cellOf cy K ln hp0)) sz) := by
  refine met_of2 (y := yX6_pick) (L := 9) (av := [.ref qa900, .int zi901, .int zi902, .long wl903]) (Qc := fun A => QBi (S := (Nat → Nat → Value)) (fun (r : Int32) (u : (Nat → Nat → Value)) => Ok K u ∧ Fr [] K hp0 u) G (fun u => va_pl Ls (cellOf cy K ln u)) A) (plainFor_of_name (by decide)) (Nat.le_of_ble_eq_true rfl) ?_
  intro p e s m below meth c hsz hx hb hr hml hown hT hlocks hin hK A hA hE hw hS ls hl
  have hw : PW G cy K ln Ls A hp0 s.heap := hw
  have hown : s.vm.findClass "LieClock$Sets" = some m.cls := hown
  have hl : lv_has ls 9 [(0, .ref qa900), (1, .int zi901), (2, .int zi902), (3, .long wl903)] := hl
  obtain ⟨Q, hQ⟩ : ∃ Q : State → Prop, Q = MQ below (QBi (S := (Nat → Nat → Value)) (fun (r : Int32) (u : (Nat → Nat → Value)) => Ok K u ∧ Fr [] K hp0 u) G (fun u => va_pl Ls (cellOf cy K ln u)) A) ([.ref qa900, .int zi901, .int zi902, .long wl903] : List Value).toArray s 0 0 A := ⟨_, rfl⟩
  rw [← hQ]
  refine lv_iload_n hx hb dX6_pick_0 rfl (lv_at hl 1 rfl) ?_
  refine lv_iconst (v := 1) hx hb dX6_pick_1 (by decide) ?_
  refine lv_isub hx hb dX6_pick_2 (lv_topi (fun zi1 ea2 => ?_))
  have bd3 : (0 : Int) ≤ zi1.toInt ∧ zi1.toInt ≤ 1 := b_isub ea2 bd901 bc_1 (by decide) (by decide) (by decide) (by decide)
  have qe4 : zi1.toInt = (zi901 : Int32).toInt - (1 : Int32).toInt := e_isub ea2 bd901 bc_1 (by decide) (by decide)
  have qe5 : zi1.toInt = zi901.toInt - 1 := by have ha : (1 : Int32).toInt = 1 := (by decide); rw [ha] at qe4; exact qe4
  refine lv_istore (lv' := [(5, .int zi1), (0, .ref qa900), (1, .int zi901), (2, .int zi902), (3, .long wl903)]) hx hb dX6_pick_3 hl (by decide) rfl (fun ls hl => ?_)
  have lp613 : ∀ (n611 : Nat) (zi439 : Int32) (H : Heap) (locs : List Loc) (ls : Array Slot), 16 - zi439.toInt < (n611 : Int) → ((0 : Int) ≤ zi439.toInt ∧ zi439.toInt ≤ 16) → lv_has ls 9 [(0, .ref qa900), (1, .int zi901), (2, .int zi902), (3, .long wl903), (5, .int zi439)] → PW G cy K ln Ls A hp0 H → va_S A s.heap H locs → W p l e ({ frames := 2, cells := 0, slots := 0, locals := 50 } : Room) s m ([.ref qa900, .int zi901, .int zi902, .long wl903] : List Value).toArray below meth c H locs 0 0 Q (F0 m 5 ls []) := by
    intro n611
    induction n611 with
    | zero =>
      intro zi439 H locs ls hm614 bd440 hl hw hS
      exact absurd hm614 (by have := bd440; omega)
    | succ n611 ih612 =>
      intro zi439 H locs ls hm614 bd440 hl hw hS
      refine lv_iload hx hb dX6_pick_5 (lv_at hl 4 rfl) ?_
      refine lv_if_lt (tgt := 114) hx hb dX6_pick_7 (by decide) (fun c => absurd c (d_nlt bd440 bc_0 (by decide))) (fun _ => ?_)
      refine lv_iload hx hb dX6_pick_10 (lv_at hl 4 rfl) ?_
      refine lv_iload_n hx hb dX6_pick_12 rfl (lv_at hl 2 rfl) ?_
      refine lv_icmp_ge (tgt := 114) hx hb dX6_pick_13 (by decide) (fun cn615 => ?_) (fun cn615 => ?_)
      · skip
        have bd616 : (-2147483648 : Int) ≤ zi902.toInt ∧ zi902.toInt ≤ 16 := r_le_x cn615 (b_all zi902) bd440 (by decide) (by decide)
        refine lv_iconst (v := 0) hx hb dX6_pick_114 (by decide) ?_
        rw [hQ]
        exact kz_i hx hb hr hlocks hS rfl hp0 hw ⟨ok0, (Fr.rf)⟩ (Nat.le_of_ble_eq_true rfl) (Nat.le_of_ble_eq_true rfl) dX6_pick_115
      · skip
        have bd617 : (1 : Int) ≤ zi902.toInt ∧ zi902.toInt ≤ 2147483647 := r_lt_y (Int32.not_le.mp cn615) bd440 (b_all zi902) (by decide) (by decide)
        refine lv_iload hx hb dX6_pick_16 (lv_at hl 4 rfl) ?_
        refine lv_aload_n hx hb dX6_pick_18 rfl (lv_at hl 0 rfl) ?_
        obtain ⟨zi619, eq618, bd620⟩ := rd_7003 ok0 kd900
        refine p_get (ci := 6) (v := .int zi619) (C := RX6) (T := TX6) (N := 6) hx hb hT iw_X6 hown hK hw hW kd900 (by decide) rfl rfl 3 (by decide) eq618 (hT _ tb_531) (fun _ h9 => h9) dX6_pick_19 ?_
        refine lv_icmp_ge (tgt := 114) hx hb dX6_pick_22 (by decide) (fun cn621 => ?_) (fun cn621 => ?_)
        · skip
          refine lv_iconst (v := 0) hx hb dX6_pick_114 (by decide) ?_
          rw [hQ]
          exact kz_i hx hb hr hlocks hS rfl hp0 hw ⟨ok0, (Fr.rf)⟩ (Nat.le_of_ble_eq_true rfl) (Nat.le_of_ble_eq_true rfl) dX6_pick_115
        · skip
          have bd622 : (0 : Int) ≤ zi439.toInt ∧ zi439.toInt ≤ 15 := r_lt_x (Int32.not_le.mp cn621) bd440 bd620 (by decide) (by decide)
          have bd623 : (1 : Int) ≤ zi619.toInt ∧ zi619.toInt ≤ 16 := r_lt_y (Int32.not_le.mp cn621) bd440 bd620 (by decide) (by decide)
          refine lv_lload_n hx hb dX6_pick_25 rfl (lv_at hl 3 rfl) ?_
          refine lv_aload_n hx hb dX6_pick_26 rfl (lv_at hl 0 rfl) ?_
          obtain ⟨qa625, eq624, kd626⟩ := rd_7000 ok0 kd900
          refine p_get (ci := 6) (v := .ref qa625) (C := RX6) (T := TX6) (N := 6) hx hb hT iw_X6 hown hK hw hW kd900 (by decide) rfl rfl 0 (by decide) eq624 (hT _ tb_528) (fun _ h9 => h9) dX6_pick_27 ?_
          refine lv_iload hx hb dX6_pick_30 (lv_at hl 4 rfl) ?_
          obtain ⟨wl628, eq627⟩ := rd_37000 ok0 kd626 ((zi439 : Int32).toNatClampNeg)
          refine p_lald (v := wl628) hx hb hK hw hW kd626 (by decide) rfl (hW.len kd626 (n := 16) rfl (by decide)) (vp_b bd622 (by decide) (by decide)) eq627 dX6_pick_32 ?_
          refine lv_land hx hb dX6_pick_33 (lv_topl (fun wl629 _ => ?_))
          refine lv_lstore (lv' := [(6, .long wl629), (0, .ref qa900), (1, .int zi901), (2, .int zi902), (3, .long wl903), (5, .int zi439)]) hx hb dX6_pick_34 hl (by decide) rfl (fun ls hl => ?_)
          refine lv_iload_n hx hb dX6_pick_36 rfl (lv_at hl 2 rfl) ?_
          refine lv_iconst (v := 1) hx hb dX6_pick_37 (by decide) ?_
          refine lv_icmp_ne (tgt := 60) hx hb dX6_pick_38 (by decide) (fun cn630 => ?_) (fun cn630 => ?_)
          · skip
            have bd631 : (2 : Int) ≤ zi901.toInt ∧ zi901.toInt ≤ 2 := r_ne_lo cn630 bd901 (toi bc_1) (by decide) (by decide)
            refine lv_aload_n hx hb dX6_pick_60 rfl (lv_at hl 1 rfl) ?_
            refine lv_lload hx hb dX6_pick_61 (lv_at hl 0 rfl) ?_
            refine lv_aload_n hx hb dX6_pick_63 rfl (lv_at hl 1 rfl) ?_
            obtain ⟨qa633, eq632, kd634⟩ := rd_7002 ok0 kd900
            refine p_get (ci := 6) (v := .ref qa633) (C := RX6) (T := TX6) (N := 6) hx hb hT iw_X6 hown hK hw hW kd900 (by decide) rfl rfl 2 (by decide) eq632 (hT _ tb_530) (fun _ h9 => h9) dX6_pick_64 ?_
            refine lv_iload hx hb dX6_pick_67 (lv_at hl 5 rfl) ?_
            obtain ⟨wl636, eq635⟩ := rd_39000 ok0 kd634 ((zi439 : Int32).toNatClampNeg)
            refine p_lald (v := wl636) hx hb hK hw hW kd634 (by decide) rfl (hW.len kd634 (n := 17) rfl (by decide)) (vp_b bd622 (by decide) (by decide)) eq635 dX6_pick_69 ?_
            refine lv_land hx hb dX6_pick_70 (lv_topl (fun wl637 _ => ?_))
            refine kq_i hw hS hA (va_runV (As := [.long wl637]) (rest := []) ⟨hx, hb, hml, hown, hT⟩ (cX6_isEnough_0 l G cy ev K ln Ls hW _ hp0 ok0 qa900 wl637 kd900) (cwV 1 hT (good_V tb_1272 tb_1269 tb_1271 tb_43 tb_118) rfl rfl rfl (by decide +kernel) ⟨Nat.le_of_ble_eq_true rfl, Nat.le_of_ble_eq_true rfl⟩) (pool_preV (ci := 6) hK hE hS hA hw hW kd900 (by decide) rfl) rfl rfl hl.1 rfl (lv_room (Nat.le_of_ble_eq_true rfl)) dX6_pick_71 ⟨Nat.le_of_ble_eq_true rfl, Nat.le_of_ble_eq_true rfl⟩) (fun zi642 hp638 H locs hq641 hw hS => ?_)
            obtain ⟨ok639, F640, bd643⟩ := hq641
            obtain rfl : hp0 = hp638 := (Fr.nil F640).symm
            have hw : PW G cy K ln Ls A hp0 H := hw
            refine lv_if_eq (tgt := 108) hx hb dX6_pick_74 (by decide) (fun cn644 => ?_) (fun cn644 => ?_)
            · skip
              have bd645 : (0 : Int) ≤ zi642.toInt ∧ zi642.toInt ≤ 0 := r_eq_x cn644 bd643 bc_0 (by decide) (by decide)
              obtain ⟨zi646, ea647⟩ : ∃ z : Int32, z = zi439 + 1 := ⟨_, rfl⟩
              have bd648 : (1 : Int) ≤ zi646.toInt ∧ zi646.toInt ≤ 16 := b_iadd ea647 bd622 bc_1 (by decide) (by decide) (by decide) (by decide)
              have qe649 : zi646.toInt = (zi439 : Int32).toInt + (1 : Int32).toInt := e_iadd ea647 bd622 bc_1 (by decide) (by decide)
              have qe650 : zi646.toInt = zi439.toInt + 1 := by have ha : (1 : Int32).toInt = 1 := (by decide); rw [ha] at qe649; exact qe649
              refine lv_iinc (v := zi646) (lv' := [(5, .int zi646), (6, .long wl629), (0, .ref qa900), (1, .int zi901), (2, .int zi902), (3, .long wl903)]) hx hb dX6_pick_108 hl (k := 5) rfl ea647.symm (by decide) rfl (fun ls hl => ?_)
              refine lv_goto (tgt := 5) hx hb dX6_pick_111 (by decide) ?_
              exact ih612 zi646 _ _ ls (by have := hm614; have := qe650; omega) (b_wid2 bd648 (by decide) (by decide)) (lv_sub hl [2, 3, 4, 5, 0] rfl) hw hS
            · skip
              have bd651 : (1 : Int) ≤ zi642.toInt ∧ zi642.toInt ≤ 1 := r_ne_lo cn644 bd643 (toi bc_0) (by decide) (by decide)
              refine lv_aload_n hx hb dX6_pick_77 rfl (lv_at hl 1 rfl) ?_
              refine lv_iload_n hx hb dX6_pick_78 rfl (lv_at hl 2 rfl) ?_
              refine lv_iconst (v := 1) hx hb dX6_pick_79 (by decide) ?_
              refine lv_isub hx hb dX6_pick_80 (lv_topi (fun zi652 ea653 => ?_))
              have bd654 : (1 : Int) ≤ zi652.toInt ∧ zi652.toInt ≤ 1 := b_isub ea653 bd631 bc_1 (by decide) (by decide) (by decide) (by decide)
              have qe655 : zi652.toInt = (zi901 : Int32).toInt - (1 : Int32).toInt := e_isub ea653 bd631 bc_1 (by decide) (by decide)
              have qe656 : zi652.toInt = zi901.toInt - 1 := by have ha : (1 : Int32).toInt = 1 := (by decide); rw [ha] at qe655; exact qe655
              refine lv_iload hx hb dX6_pick_81 (lv_at hl 5 rfl) ?_
              refine lv_lload hx hb dX6_pick_83 (lv_at hl 0 rfl) ?_
              refine kq_i hw hS hA (va_runV (As := [.int zi652, .int zi439, .long wl629]) (rest := []) ⟨hx, hb, hml, hown, hT⟩ (cX6_pick_0 l G cy ev K ln Ls hW _ hp0 ok0 qa900 zi652 zi439 wl629 kd900 (b_wid2 bd654 (by decide) (by decide))) (cwV 3 hT (good_V tb_1277 tb_1274 tb_1276 tb_44 tb_118) rfl rfl rfl (by decide +kernel) ⟨Nat.le_of_ble_eq_true rfl, Nat.le_of_ble_eq_true rfl⟩) (pool_preV (ci := 6) hK hE hS hA hw hW kd900 (by decide) rfl) rfl rfl hl.1 rfl (lv_room (Nat.le_of_ble_eq_true rfl)) dX6_pick_85 ⟨Nat.le_of_ble_eq_true rfl, Nat.le_of_ble_eq_true rfl⟩) (fun zi661 hp657 H locs hq660 hw hS => ?_)
              obtain ⟨ok658, F659⟩ := hq660
              obtain rfl : hp0 = hp657 := (Fr.nil F659).symm
              have hw : PW G cy K ln Ls A hp0 H := hw
              refine lv_istore (lv' := [(8, .int zi661), (6, .long wl629), (0, .ref qa900), (1, .int zi901), (2, .int zi902), (3, .long wl903), (5, .int zi439)]) hx hb dX6_pick_88 hl (by decide) rfl (fun ls hl => ?_)
              refine lv_iload hx hb dX6_pick_90 (lv_at hl 0 rfl) ?_
              refine lv_if_eq (tgt := 108) hx hb dX6_pick_92 (by decide) (fun cn662 => ?_) (fun cn662 => ?_)
              · skip
                have bd663 : (0 : Int) ≤ zi661.toInt ∧ zi661.toInt ≤ 0 := r_eq_x cn662 (b_all zi661) bc_0 (by decide) (by decide)
                obtain ⟨zi664, ea665⟩ : ∃ z : Int32, z = zi439 + 1 := ⟨_, rfl⟩
                have bd666 : (1 : Int) ≤ zi664.toInt ∧ zi664.toInt ≤ 16 := b_iadd ea665 bd622 bc_1 (by decide) (by decide) (by decide) (by decide)
                have qe667 : zi664.toInt = (zi439 : Int32).toInt + (1 : Int32).toInt := e_iadd ea665 bd622 bc_1 (by decide) (by decide)
                have qe668 : zi664.toInt = zi439.toInt + 1 := by have ha : (1 : Int32).toInt = 1 := (by decide); rw [ha] at qe667; exact qe667
                refine lv_iinc (v := zi664) (lv' := [(5, .int zi664), (8, .int zi661), (6, .long wl629), (0, .ref qa900), (1, .int zi901), (2, .int zi902), (3, .long wl903)]) hx hb dX6_pick_108 hl (k := 6) rfl ea665.symm (by decide) rfl (fun ls hl => ?_)
                refine lv_goto (tgt := 5) hx hb dX6_pick_111 (by decide) ?_
                exact ih612 zi664 _ _ ls (by have := hm614; have := qe668; omega) (b_wid2 bd666 (by decide) (by decide)) (lv_sub hl [3, 4, 5, 6, 0] rfl) hw hS
              · skip
                refine lv_iload hx hb dX6_pick_95 (lv_at hl 0 rfl) ?_
                refine lv_iconst (v := 1) hx hb dX6_pick_97 (by decide) ?_
                refine lv_aload_n hx hb dX6_pick_98 rfl (lv_at hl 2 rfl) ?_
                obtain ⟨qa670, eq669, kd671⟩ := rd_7001 ok0 kd900
                refine p_get (ci := 6) (v := .ref qa670) (C := RX6) (T := TX6) (N := 6) hx hb hT iw_X6 hown hK hw hW kd900 (by decide) rfl rfl 1 (by decide) eq669 (hT _ tb_529) (fun _ h9 => h9) dX6_pick_99 ?_
                refine lv_iload hx hb dX6_pick_102 (lv_at hl 6 rfl) ?_
                obtain ⟨zi673, eq672⟩ := rd_38000 ok0 kd671 ((zi439 : Int32).toNatClampNeg)
                refine p_iald (v := zi673) hx hb hK hw hW kd671 (by decide) rfl (hW.len kd671 (n := 16) rfl (by decide)) (vp_b bd622 (by decide) (by decide)) eq672 dX6_pick_104 ?_
                refine lv_ishl hx hb dX6_pick_105 (lv_topi (fun zi674 ea675 => ?_))
                refine lv_ior hx hb dX6_pick_106 (lv_topi (fun zi676 ea677 => ?_))
                rw [hQ]
                exact kz_i hx hb hr hlocks hS rfl hp0 hw ⟨ok0, (Fr.rf)⟩ (Nat.le_of_ble_eq_true rfl) (Nat.le_of_ble_eq_true rfl) dX6_pick_107
          · skip
            have bd678 : (1 : Int) ≤ zi901.toInt ∧ zi901.toInt ≤ 1 := r_eq_x cn630 bd901 bc_1 (by decide) (by decide)
            refine lv_aload_n hx hb dX6_pick_41 rfl (lv_at hl 1 rfl) ?_
            refine lv_lload hx hb dX6_pick_42 (lv_at hl 0 rfl) ?_
            refine kq_i hw hS hA (va_runV (As := [.long wl629]) (rest := []) ⟨hx, hb, hml, hown, hT⟩ (cX6_isEnough_0 l G cy ev K ln Ls hW _ hp0 ok0 qa900 wl629 kd900) (cwV 1 hT (good_V tb_1272 tb_1269 tb_1271 tb_43 tb_118) rfl rfl rfl (by decide +kernel) ⟨Nat.le_of_ble_eq_true rfl, Nat.le_of_ble_eq_true rfl⟩) (pool_preV (ci := 6) hK hE hS hA hw hW kd900 (by decide) rfl) rfl rfl hl.1 rfl (lv_room (Nat.le_of_ble_eq_true rfl)) dX6_pick_44 ⟨Nat.le_of_ble_eq_true rfl, Nat.le_of_ble_eq_true rfl⟩) (fun zi683 hp679 H locs hq682 hw hS => ?_)
            obtain ⟨ok680, F681, bd684⟩ := hq682
            obtain rfl : hp0 = hp679 := (Fr.nil F681).symm
            have hw : PW G cy K ln Ls A hp0 H := hw
            refine lv_if_eq (tgt := 108) hx hb dX6_pick_47 (by decide) (fun cn685 => ?_) (fun cn685 => ?_)
            · skip
              have bd686 : (0 : Int) ≤ zi683.toInt ∧ zi683.toInt ≤ 0 := r_eq_x cn685 bd684 bc_0 (by decide) (by decide)
              obtain ⟨zi687, ea688⟩ : ∃ z : Int32, z = zi439 + 1 := ⟨_, rfl⟩
              have bd689 : (1 : Int) ≤ zi687.toInt ∧ zi687.toInt ≤ 16 := b_iadd ea688 bd622 bc_1 (by decide) (by decide) (by decide) (by decide)
              have qe690 : zi687.toInt = (zi439 : Int32).toInt + (1 : Int32).toInt := e_iadd ea688 bd622 bc_1 (by decide) (by decide)
              have qe691 : zi687.toInt = zi439.toInt + 1 := by have ha : (1 : Int32).toInt = 1 := (by decide); rw [ha] at qe690; exact qe690
              refine lv_iinc (v := zi687) (lv' := [(5, .int zi687), (6, .long wl629), (0, .ref qa900), (1, .int zi901), (2, .int zi902), (3, .long wl903)]) hx hb dX6_pick_108 hl (k := 5) rfl ea688.symm (by decide) rfl (fun ls hl => ?_)
              refine lv_goto (tgt := 5) hx hb dX6_pick_111 (by decide) ?_
              exact ih612 zi687 _ _ ls (by have := hm614; have := qe691; omega) (b_wid2 bd689 (by decide) (by decide)) (lv_sub hl [2, 3, 4, 5, 0] rfl) hw hS
            · skip
              have bd692 : (1 : Int) ≤ zi683.toInt ∧ zi683.toInt ≤ 1 := r_ne_lo cn685 bd684 (toi bc_0) (by decide) (by decide)
              refine lv_iconst (v := 1) hx hb dX6_pick_50 (by decide) ?_
              refine lv_aload_n hx hb dX6_pick_51 rfl (lv_at hl 1 rfl) ?_
              obtain ⟨qa694, eq693, kd695⟩ := rd_7001 ok0 kd900
              refine p_get (ci := 6) (v := .ref qa694) (C := RX6) (T := TX6) (N := 6) hx hb hT iw_X6 hown hK hw hW kd900 (by decide) rfl rfl 1 (by decide) eq693 (hT _ tb_529) (fun _ h9 => h9) dX6_pick_52 ?_
              refine lv_iload hx hb dX6_pick_55 (lv_at hl 5 rfl) ?_
              obtain ⟨zi697, eq696⟩ := rd_38000 ok0 kd695 ((zi439 : Int32).toNatClampNeg)
              refine p_iald (v := zi697) hx hb hK hw hW kd695 (by decide) rfl (hW.len kd695 (n := 16) rfl (by decide)) (vp_b bd622 (by decide) (by decide)) eq696 dX6_pick_57 ?_
              refine lv_ishl hx hb dX6_pick_58 (lv_topi (fun zi698 ea699 => ?_))
              rw [hQ]
              exact kz_i hx hb hr hlocks hS rfl hp0 hw ⟨ok0, (Fr.rf)⟩ (Nat.le_of_ble_eq_true rfl) (Nat.le_of_ble_eq_true rfl) dX6_pick_59
  exact lp613 _ zi1 _ _ ls (lp_in _) (b_wid2 bd3 (by decide) (by decide)) (lv_sub hl [1, 2, 3, 4, 0] rfl) hw hS

set_option maxRecDepth 100000 in
set_option maxHeartbeats 4000000 in
theorem cX6_pick_2 (l : Launch) (G : va_G) (cy : Nat → ClassId) (ev : Ew) (K ln : Nat → Nat) (Ls : List Nat) (hW : SW K ln Ls) (sz : Nat) (hp0 : Nat → Nat → Value) (ok0 : Ok K hp0) (qa900 : Nat) (zi901 : Int32) (zi902 : Int32) (wl903 : Int64) (kd900 : K qa900 = 7) (bd901 : ((1 : Int) ≤ zi901.toInt ∧ zi901.toInt ≤ 3)) : Met l yX6_pick (WS yX6_pick cX6_pick 9 (some .int)) { frames := 3, cells := 0, slots := 0, locals := 78 } (PB2 [.ref qa900, .int zi901, .int zi902, .long wl903] sz G cy ev (va_pl Ls (cellOf cy K ln hp0))) (QBi (S := (Nat → Nat → Value)) (fun (r : Int32) (u : (Nat → Nat → Value)) => Ok K u ∧ Fr [] K hp0 u) G (fun u => va_pl Ls (cellOf cy K ln u)) (va_A (va_pl Ls (cellOf cy K ln hp0)) sz)) 0 0 (va_A (va_pl Ls (cellOf cy K ln hp0)) sz) := by
  refine met_of2 (y := yX6_pick) (L := 9) (av := [.ref qa900, .int zi901, .int zi902, .long wl903]) (Qc := fun A => QBi (S := (Nat → Nat → Value)) (fun (r : Int32) (u : (Nat → Nat → Value)) => Ok K u ∧ Fr [] K hp0 u) G (fun u => va_pl Ls (cellOf cy K ln u)) A) (plainFor_of_name (by decide)) (Nat.le_of_ble_eq_true rfl) ?_
  intro p e s m below meth c hsz hx hb hr hml hown hT hlocks hin hK A hA hE hw hS ls hl
  have hw : PW G cy K ln Ls A hp0 s.heap := hw
  have hown : s.vm.findClass "LieClock$Sets" = some m.cls := hown
  have hl : lv_has ls 9 [(0, .ref qa900), (1, .int zi901), (2, .int zi902), (3, .long wl903)] := hl
  obtain ⟨Q, hQ⟩ : ∃ Q : State → Prop, Q = MQ below (QBi (S := (Nat → Nat → Value)) (fun (r : Int32) (u : (Nat → Nat → Value)) => Ok K u ∧ Fr [] K hp0 u) G (fun u => va_pl Ls (cellOf cy K ln u)) A) ([.ref qa900, .int zi901, .int zi902, .long wl903] : List Value).toArray s 0 0 A := ⟨_, rfl⟩
  rw [← hQ]
  refine lv_iload_n hx hb dX6_pick_0 rfl (lv_at hl 1 rfl) ?_
  refine lv_iconst (v := 1) hx hb dX6_pick_1 (by decide) ?_
  refine lv_isub hx hb dX6_pick_2 (lv_topi (fun zi1 ea2 => ?_))
  have bd3 : (0 : Int) ≤ zi1.toInt ∧ zi1.toInt ≤ 2 := b_isub ea2 bd901 bc_1 (by decide) (by decide) (by decide) (by decide)
  have qe4 : zi1.toInt = (zi901 : Int32).toInt - (1 : Int32).toInt := e_isub ea2 bd901 bc_1 (by decide) (by decide)
  have qe5 : zi1.toInt = zi901.toInt - 1 := by have ha : (1 : Int32).toInt = 1 := (by decide); rw [ha] at qe4; exact qe4
  refine lv_istore (lv' := [(5, .int zi1), (0, .ref qa900), (1, .int zi901), (2, .int zi902), (3, .long wl903)]) hx hb dX6_pick_3 hl (by decide) rfl (fun ls hl => ?_)
  have lp613 : ∀ (n611 : Nat) (zi439 : Int32) (H : Heap) (locs : List Loc) (ls : Array Slot), 16 - zi439.toInt < (n611 : Int) → ((0 : Int) ≤ zi439.toInt ∧ zi439.toInt ≤ 16) → lv_has ls 9 [(0, .ref qa900), (1, .int zi901), (2, .int zi902), (3, .long wl903), (5, .int zi439)] → PW G cy K ln Ls A hp0 H → va_S A s.heap H locs → W p l e ({ frames := 3, cells := 0, slots := 0, locals := 78 } : Room) s m ([.ref qa900, .int zi901, .int zi902, .long wl903] : List Value).toArray below meth c H locs 0 0 Q (F0 m 5 ls []) := by
    intro n611
    induction n611 with
    | zero =>
      intro zi439 H locs ls hm614 bd440 hl hw hS
      exact absurd hm614 (by have := bd440; omega)
    | succ n611 ih612 =>
      intro zi439 H locs ls hm614 bd440 hl hw hS
      refine lv_iload hx hb dX6_pick_5 (lv_at hl 4 rfl) ?_
      refine lv_if_lt (tgt := 114) hx hb dX6_pick_7 (by decide) (fun c => absurd c (d_nlt bd440 bc_0 (by decide))) (fun _ => ?_)
      refine lv_iload hx hb dX6_pick_10 (lv_at hl 4 rfl) ?_
      refine lv_iload_n hx hb dX6_pick_12 rfl (lv_at hl 2 rfl) ?_
      refine lv_icmp_ge (tgt := 114) hx hb dX6_pick_13 (by decide) (fun cn615 => ?_) (fun cn615 => ?_)
      · skip
        have bd616 : (-2147483648 : Int) ≤ zi902.toInt ∧ zi902.toInt ≤ 16 := r_le_x cn615 (b_all zi902) bd440 (by decide) (by decide)
        refine lv_iconst (v := 0) hx hb dX6_pick_114 (by decide) ?_
        rw [hQ]
        exact kz_i hx hb hr hlocks hS rfl hp0 hw ⟨ok0, (Fr.rf)⟩ (Nat.le_of_ble_eq_true rfl) (Nat.le_of_ble_eq_true rfl) dX6_pick_115
      · skip
        have bd617 : (1 : Int) ≤ zi902.toInt ∧ zi902.toInt ≤ 2147483647 := r_lt_y (Int32.not_le.mp cn615) bd440 (b_all zi902) (by decide) (by decide)
        refine lv_iload hx hb dX6_pick_16 (lv_at hl 4 rfl) ?_
        refine lv_aload_n hx hb dX6_pick_18 rfl (lv_at hl 0 rfl) ?_
        obtain ⟨zi619, eq618, bd620⟩ := rd_7003 ok0 kd900
        refine p_get (ci := 6) (v := .int zi619) (C := RX6) (T := TX6) (N := 6) hx hb hT iw_X6 hown hK hw hW kd900 (by decide) rfl rfl 3 (by decide) eq618 (hT _ tb_531) (fun _ h9 => h9) dX6_pick_19 ?_
        refine lv_icmp_ge (tgt := 114) hx hb dX6_pick_22 (by decide) (fun cn621 => ?_) (fun cn621 => ?_)
        · skip
          refine lv_iconst (v := 0) hx hb dX6_pick_114 (by decide) ?_
          rw [hQ]
          exact kz_i hx hb hr hlocks hS rfl hp0 hw ⟨ok0, (Fr.rf)⟩ (Nat.le_of_ble_eq_true rfl) (Nat.le_of_ble_eq_true rfl) dX6_pick_115
        · skip
          have bd622 : (0 : Int) ≤ zi439.toInt ∧ zi439.toInt ≤ 15 := r_lt_x (Int32.not_le.mp cn621) bd440 bd620 (by decide) (by decide)
          have bd623 : (1 : Int) ≤ zi619.toInt ∧ zi619.toInt ≤ 16 := r_lt_y (Int32.not_le.mp cn621) bd440 bd620 (by decide) (by decide)
          refine lv_lload_n hx hb dX6_pick_25 rfl (lv_at hl 3 rfl) ?_
          refine lv_aload_n hx hb dX6_pick_26 rfl (lv_at hl 0 rfl) ?_
          obtain ⟨qa625, eq624, kd626⟩ := rd_7000 ok0 kd900
          refine p_get (ci := 6) (v := .ref qa625) (C := RX6) (T := TX6) (N := 6) hx hb hT iw_X6 hown hK hw hW kd900 (by decide) rfl rfl 0 (by decide) eq624 (hT _ tb_528) (fun _ h9 => h9) dX6_pick_27 ?_
          refine lv_iload hx hb dX6_pick_30 (lv_at hl 4 rfl) ?_
          obtain ⟨wl628, eq627⟩ := rd_37000 ok0 kd626 ((zi439 : Int32).toNatClampNeg)
          refine p_lald (v := wl628) hx hb hK hw hW kd626 (by decide) rfl (hW.len kd626 (n := 16) rfl (by decide)) (vp_b bd622 (by decide) (by decide)) eq627 dX6_pick_32 ?_
          refine lv_land hx hb dX6_pick_33 (lv_topl (fun wl629 _ => ?_))
          refine lv_lstore (lv' := [(6, .long wl629), (0, .ref qa900), (1, .int zi901), (2, .int zi902), (3, .long wl903), (5, .int zi439)]) hx hb dX6_pick_34 hl (by decide) rfl (fun ls hl => ?_)
          refine lv_iload_n hx hb dX6_pick_36 rfl (lv_at hl 2 rfl) ?_
          refine lv_iconst (v := 1) hx hb dX6_pick_37 (by decide) ?_
          refine lv_icmp_ne (tgt := 60) hx hb dX6_pick_38 (by decide) (fun cn630 => ?_) (fun cn630 => ?_)
          · skip
            have bd631 : (2 : Int) ≤ zi901.toInt ∧ zi901.toInt ≤ 3 := r_ne_lo cn630 bd901 (toi bc_1) (by decide) (by decide)
            refine lv_aload_n hx hb dX6_pick_60 rfl (lv_at hl 1 rfl) ?_
            refine lv_lload hx hb dX6_pick_61 (lv_at hl 0 rfl) ?_
            refine lv_aload_n hx hb dX6_pick_63 rfl (lv_at hl 1 rfl) ?_
            obtain ⟨qa633, eq632, kd634⟩ := rd_7002 ok0 kd900
            refine p_get (ci := 6) (v := .ref qa633) (C := RX6) (T := TX6) (N := 6) hx hb hT iw_X6 hown hK hw hW kd900 (by decide) rfl rfl 2 (by decide) eq632 (hT _ tb_530) (fun _ h9 => h9) dX6_pick_64 ?_
            refine lv_iload hx hb dX6_pick_67 (lv_at hl 5 rfl) ?_
            obtain ⟨wl636, eq635⟩ := rd_39000 ok0 kd634 ((zi439 : Int32).toNatClampNeg)
            refine p_lald (v := wl636) hx hb hK hw hW kd634 (by decide) rfl (hW.len kd634 (n := 17) rfl (by decide)) (vp_b bd622 (by decide) (by decide)) eq635 dX6_pick_69 ?_
            refine lv_land hx hb dX6_pick_70 (lv_topl (fun wl637 _ => ?_))
            refine kq_i hw hS hA (va_runV (As := [.long wl637]) (rest := []) ⟨hx, hb, hml, hown, hT⟩ (cX6_isEnough_0 l G cy ev K ln Ls hW _ hp0 ok0 qa900 wl637 kd900) (cwV 1 hT (good_V tb_1272 tb_1269 tb_1271 tb_43 tb_118) rfl rfl rfl (by decide +kernel) ⟨Nat.le_of_ble_eq_true rfl, Nat.le_of_ble_eq_true rfl⟩) (pool_preV (ci := 6) hK hE hS hA hw hW kd900 (by decide) rfl) rfl rfl hl.1 rfl (lv_room (Nat.le_of_ble_eq_true rfl)) dX6_pick_71 ⟨Nat.le_of_ble_eq_true rfl, Nat.le_of_ble_eq_true rfl⟩) (fun zi642 hp638 H locs hq641 hw hS => ?_)
            obtain ⟨ok639, F640, bd643⟩ := hq641
            obtain rfl : hp0 = hp638 := (Fr.nil F640).symm
            have hw : PW G cy K ln Ls A hp0 H := hw
            refine lv_if_eq (tgt := 108) hx hb dX6_pick_74 (by decide) (fun cn644 => ?_) (fun cn644 => ?_)
            · skip
              have bd645 : (0 : Int) ≤ zi642.toInt ∧ zi642.toInt ≤ 0 := r_eq_x cn644 bd643 bc_0 (by decide) (by decide)
              obtain ⟨zi646, ea647⟩ : ∃ z : Int32, z = zi439 + 1 := ⟨_, rfl⟩
              have bd648 : (1 : Int) ≤ zi646.toInt ∧ zi646.toInt ≤ 16 := b_iadd ea647 bd622 bc_1 (by decide) (by decide) (by decide) (by decide)
              have qe649 : zi646.toInt = (zi439 : Int32).toInt + (1 : Int32).toInt := e_iadd ea647 bd622 bc_1 (by decide) (by decide)
              have qe650 : zi646.toInt = zi439.toInt + 1 := by have ha : (1 : Int32).toInt = 1 := (by decide); rw [ha] at qe649; exact qe649
              refine lv_iinc (v := zi646) (lv' := [(5, .int zi646), (6, .long wl629), (0, .ref qa900), (1, .int zi901), (2, .int zi902), (3, .long wl903)]) hx hb dX6_pick_108 hl (k := 5) rfl ea647.symm (by decide) rfl (fun ls hl => ?_)
              refine lv_goto (tgt := 5) hx hb dX6_pick_111 (by decide) ?_
              exact ih612 zi646 _ _ ls (by have := hm614; have := qe650; omega) (b_wid2 bd648 (by decide) (by decide)) (lv_sub hl [2, 3, 4, 5, 0] rfl) hw hS
            · skip
              have bd651 : (1 : Int) ≤ zi642.toInt ∧ zi642.toInt ≤ 1 := r_ne_lo cn644 bd643 (toi bc_0) (by decide) (by decide)
              refine lv_aload_n hx hb dX6_pick_77 rfl (lv_at hl 1 rfl) ?_
              refine lv_iload_n hx hb dX6_pick_78 rfl (lv_at hl 2 rfl) ?_
              refine lv_iconst (v := 1) hx hb dX6_pick_79 (by decide) ?_
              refine lv_isub hx hb dX6_pick_80 (lv_topi (fun zi652 ea653 => ?_))
              have bd654 : (1 : Int) ≤ zi652.toInt ∧ zi652.toInt ≤ 2 := b_isub ea653 bd631 bc_1 (by decide) (by decide) (by decide) (by decide)
              have qe655 : zi652.toInt = (zi901 : Int32).toInt - (1 : Int32).toInt := e_isub ea653 bd631 bc_1 (by decide) (by decide)
              have qe656 : zi652.toInt = zi901.toInt - 1 := by have ha : (1 : Int32).toInt = 1 := (by decide); rw [ha] at qe655; exact qe655
              refine lv_iload hx hb dX6_pick_81 (lv_at hl 5 rfl) ?_
              refine lv_lload hx hb dX6_pick_83 (lv_at hl 0 rfl) ?_
              refine kq_i hw hS hA (va_runV (As := [.int zi652, .int zi439, .long wl629]) (rest := []) ⟨hx, hb, hml, hown, hT⟩ (cX6_pick_1 l G cy ev K ln Ls hW _ hp0 ok0 qa900 zi652 zi439 wl629 kd900 (b_wid2 bd654 (by decide) (by decide))) (cwV 3 hT (good_V tb_1277 tb_1274 tb_1276 tb_44 tb_118) rfl rfl rfl (by decide +kernel) ⟨Nat.le_of_ble_eq_true rfl, Nat.le_of_ble_eq_true rfl⟩) (pool_preV (ci := 6) hK hE hS hA hw hW kd900 (by decide) rfl) rfl rfl hl.1 rfl (lv_room (Nat.le_of_ble_eq_true rfl)) dX6_pick_85 ⟨Nat.le_of_ble_eq_true rfl, Nat.le_of_ble_eq_true rfl⟩) (fun zi661 hp657 H locs hq660 hw hS => ?_)
              obtain ⟨ok658, F659⟩ := hq660
              obtain rfl : hp0 = hp657 := (Fr.nil F659).symm
              have hw : PW G cy K ln Ls A hp0 H := hw
              refine lv_istore (lv' := [(8, .int zi661), (6, .long wl629), (0, .ref qa900), (1, .int zi901), (2, .int zi902), (3, .long wl903), (5, .int zi439)]) hx hb dX6_pick_88 hl (by decide) rfl (fun ls hl => ?_)
              refine lv_iload hx hb dX6_pick_90 (lv_at hl 0 rfl) ?_
              refine lv_if_eq (tgt := 108) hx hb dX6_pick_92 (by decide) (fun cn662 => ?_) (fun cn662 => ?_)
              · skip
                have bd663 : (0 : Int) ≤ zi661.toInt ∧ zi661.toInt ≤ 0 := r_eq_x cn662 (b_all zi661) bc_0 (by decide) (by decide)
                obtain ⟨zi664, ea665⟩ : ∃ z : Int32, z = zi439 + 1 := ⟨_, rfl⟩
                have bd666 : (1 : Int) ≤ zi664.toInt ∧ zi664.toInt ≤ 16 := b_iadd ea665 bd622 bc_1 (by decide) (by decide) (by decide) (by decide)
                have qe667 : zi664.toInt = (zi439 : Int32).toInt + (1 : Int32).toInt := e_iadd ea665 bd622 bc_1 (by decide) (by decide)
                have qe668 : zi664.toInt = zi439.toInt + 1 := by have ha : (1 : Int32).toInt = 1 := (by decide); rw [ha] at qe667; exact qe667
                refine lv_iinc (v := zi664) (lv' := [(5, .int zi664), (8, .int zi661), (6, .long wl629), (0, .ref qa900), (1, .int zi901), (2, .int zi902), (3, .long wl903)]) hx hb dX6_pick_108 hl (k := 6) rfl ea665.symm (by decide) rfl (fun ls hl => ?_)
                refine lv_goto (tgt := 5) hx hb dX6_pick_111 (by decide) ?_
                exact ih612 zi664 _ _ ls (by have := hm614; have := qe668; omega) (b_wid2 bd666 (by decide) (by decide)) (lv_sub hl [3, 4, 5, 6, 0] rfl) hw hS
              · skip
                refine lv_iload hx hb dX6_pick_95 (lv_at hl 0 rfl) ?_
                refine lv_iconst (v := 1) hx hb dX6_pick_97 (by decide) ?_
                refine lv_aload_n hx hb dX6_pick_98 rfl (lv_at hl 2 rfl) ?_
                obtain ⟨qa670, eq669, kd671⟩ := rd_7001 ok0 kd900
                refine p_get (ci := 6) (v := .ref qa670) (C := RX6) (T := TX6) (N := 6) hx hb hT iw_X6 hown hK hw hW kd900 (by decide) rfl rfl 1 (by decide) eq669 (hT _ tb_529) (fun _ h9 => h9) dX6_pick_99 ?_
                refine lv_iload hx hb dX6_pick_102 (lv_at hl 6 rfl) ?_
                obtain ⟨zi673, eq672⟩ := rd_38000 ok0 kd671 ((zi439 : Int32).toNatClampNeg)
                refine p_iald (v := zi673) hx hb hK hw hW kd671 (by decide) rfl (hW.len kd671 (n := 16) rfl (by decide)) (vp_b bd622 (by decide) (by decide)) eq672 dX6_pick_104 ?_
                refine lv_ishl hx hb dX6_pick_105 (lv_topi (fun zi674 ea675 => ?_))
                refine lv_ior hx hb dX6_pick_106 (lv_topi (fun zi676 ea677 => ?_))
                rw [hQ]
                exact kz_i hx hb hr hlocks hS rfl hp0 hw ⟨ok0, (Fr.rf)⟩ (Nat.le_of_ble_eq_true rfl) (Nat.le_of_ble_eq_true rfl) dX6_pick_107
          · skip
            have bd678 : (1 : Int) ≤ zi901.toInt ∧ zi901.toInt ≤ 1 := r_eq_x cn630 bd901 bc_1 (by decide) (by decide)
            refine lv_aload_n hx hb dX6_pick_41 rfl (lv_at hl 1 rfl) ?_
            refine lv_lload hx hb dX6_pick_42 (lv_at hl 0 rfl) ?_
            refine kq_i hw hS hA (va_runV (As := [.long wl629]) (rest := []) ⟨hx, hb, hml, hown, hT⟩ (cX6_isEnough_0 l G cy ev K ln Ls hW _ hp0 ok0 qa900 wl629 kd900) (cwV 1 hT (good_V tb_1272 tb_1269 tb_1271 tb_43 tb_118) rfl rfl rfl (by decide +kernel) ⟨Nat.le_of_ble_eq_true rfl, Nat.le_of_ble_eq_true rfl⟩) (pool_preV (ci := 6) hK hE hS hA hw hW kd900 (by decide) rfl) rfl rfl hl.1 rfl (lv_room (Nat.le_of_ble_eq_true rfl)) dX6_pick_44 ⟨Nat.le_of_ble_eq_true rfl, Nat.le_of_ble_eq_true rfl⟩) (fun zi683 hp679 H locs hq682 hw hS => ?_)
            obtain ⟨ok680, F681, bd684⟩ := hq682
            obtain rfl : hp0 = hp679 := (Fr.nil F681).symm
            have hw : PW G cy K ln Ls A hp0 H := hw
            refine lv_if_eq (tgt := 108) hx hb dX6_pick_47 (by decide) (fun cn685 => ?_) (fun cn685 => ?_)
            · skip
              have bd686 : (0 : Int) ≤ zi683.toInt ∧ zi683.toInt ≤ 0 := r_eq_x cn685 bd684 bc_0 (by decide) (by decide)
              obtain ⟨zi687, ea688⟩ : ∃ z : Int32, z = zi439 + 1 := ⟨_, rfl⟩
              have bd689 : (1 : Int) ≤ zi687.toInt ∧ zi687.toInt ≤ 16 := b_iadd ea688 bd622 bc_1 (by decide) (by decide) (by decide) (by decide)
              have qe690 : zi687.toInt = (zi439 : Int32).toInt + (1 : Int32).toInt := e_iadd ea688 bd622 bc_1 (by decide) (by decide)
              have qe691 : zi687.toInt = zi439.toInt + 1 := by have ha : (1 : Int32).toInt = 1 := (by decide); rw [ha] at qe690; exact qe690
              refine lv_iinc (v := zi687) (lv' := [(5, .int zi687), (6, .long wl629), (0, .ref qa900), (1, .int zi901), (2, .int zi902), (3, .long wl903)]) hx hb dX6_pick_108 hl (k := 5) rfl ea688.symm (by decide) rfl (fun ls hl => ?_)
              refine lv_goto (tgt := 5) hx hb dX6_pick_111 (by decide) ?_
              exact ih612 zi687 _ _ ls (by have := hm614; have := qe691; omega) (b_wid2 bd689 (by decide) (by decide)) (lv_sub hl [2, 3, 4, 5, 0] rfl) hw hS
            · skip
              have bd692 : (1 : Int) ≤ zi683.toInt ∧ zi683.toInt ≤ 1 := r_ne_lo cn685 bd684 (toi bc_0) (by decide) (by decide)
              refine lv_iconst (v := 1) hx hb dX6_pick_50 (by decide) ?_
              refine lv_aload_n hx hb dX6_pick_51 rfl (lv_at hl 1 rfl) ?_
              obtain ⟨qa694, eq693, kd695⟩ := rd_7001 ok0 kd900
              refine p_get (ci := 6) (v := .ref qa694) (C := RX6) (T := TX6) (N := 6) hx hb hT iw_X6 hown hK hw hW kd900 (by decide) rfl rfl 1 (by decide) eq693 (hT _ tb_529) (fun _ h9 => h9) dX6_pick_52 ?_
              refine lv_iload hx hb dX6_pick_55 (lv_at hl 5 rfl) ?_
              obtain ⟨zi697, eq696⟩ := rd_38000 ok0 kd695 ((zi439 : Int32).toNatClampNeg)
              refine p_iald (v := zi697) hx hb hK hw hW kd695 (by decide) rfl (hW.len kd695 (n := 16) rfl (by decide)) (vp_b bd622 (by decide) (by decide)) eq696 dX6_pick_57 ?_
              refine lv_ishl hx hb dX6_pick_58 (lv_topi (fun zi698 ea699 => ?_))
              rw [hQ]
              exact kz_i hx hb hr hlocks hS rfl hp0 hw ⟨ok0, (Fr.rf)⟩ (Nat.le_of_ble_eq_true rfl) (Nat.le_of_ble_eq_true rfl) dX6_pick_59
  exact lp613 _ zi1 _ _ ls (lp_in _) (b_wid2 bd3 (by decide) (by decide)) (lv_sub hl [1, 2, 3, 4, 0] rfl) hw hS

set_option maxRecDepth 100000 in
set_option maxHeartbeats 4000000 in
theorem cX6_pick_3 (l : Launch) (G : va_G) (cy : Nat → ClassId) (ev : Ew) (K ln : Nat → Nat) (Ls : List Nat) (hW : SW K ln Ls) (sz : Nat) (hp0 : Nat → Nat → Value) (ok0 : Ok K hp0) (qa900 : Nat) (zi901 : Int32) (zi902 : Int32) (wl903 : Int64) (kd900 : K qa900 = 7) (bd901 : ((1 : Int) ≤ zi901.toInt ∧ zi901.toInt ≤ 4)) : Met l yX6_pick (WS yX6_pick cX6_pick 9 (some .int)) { frames := 4, cells := 0, slots := 0, locals := 106 } (PB2 [.ref qa900, .int zi901, .int zi902, .long wl903] sz G cy ev (va_pl Ls (cellOf cy K ln hp0))) (QBi (S := (Nat → Nat → Value)) (fun (r : Int32) (u : (Nat → Nat → Value)) => Ok K u ∧ Fr [] K hp0 u) G (fun u => va_pl Ls (cellOf cy K ln u)) (va_A (va_pl Ls (cellOf cy K ln hp0)) sz)) 0 0 (va_A (va_pl Ls (cellOf cy K ln hp0)) sz) := by
  refine met_of2 (y := yX6_pick) (L := 9) (av := [.ref qa900, .int zi901, .int zi902, .long wl903]) (Qc := fun A => QBi (S := (Nat → Nat → Value)) (fun (r : Int32) (u : (Nat → Nat → Value)) => Ok K u ∧ Fr [] K hp0 u) G (fun u => va_pl Ls (cellOf cy K ln u)) A) (plainFor_of_name (by decide)) (Nat.le_of_ble_eq_true rfl) ?_
  intro p e s m below meth c hsz hx hb hr hml hown hT hlocks hin hK A hA hE hw hS ls hl
  have hw : PW G cy K ln Ls A hp0 s.heap := hw
  have hown : s.vm.findClass "LieClock$Sets" = some m.cls := hown
  have hl : lv_has ls 9 [(0, .ref qa900), (1, .int zi901), (2, .int zi902), (3, .long wl903)] := hl
  obtain ⟨Q, hQ⟩ : ∃ Q : State → Prop, Q = MQ below (QBi (S := (Nat → Nat → Value)) (fun (r : Int32) (u : (Nat → Nat → Value)) => Ok K u ∧ Fr [] K hp0 u) G (fun u => va_pl Ls (cellOf cy K ln u)) A) ([.ref qa900, .int zi901, .int zi902, .long wl903] : List Value).toArray s 0 0 A := ⟨_, rfl⟩
  rw [← hQ]
  refine lv_iload_n hx hb dX6_pick_0 rfl (lv_at hl 1 rfl) ?_
  refine lv_iconst (v := 1) hx hb dX6_pick_1 (by decide) ?_
  refine lv_isub hx hb dX6_pick_2 (lv_topi (fun zi1 ea2 => ?_))
  have bd3 : (0 : Int) ≤ zi1.toInt ∧ zi1.toInt ≤ 3 := b_isub ea2 bd901 bc_1 (by decide) (by decide) (by decide) (by decide)
  have qe4 : zi1.toInt = (zi901 : Int32).toInt - (1 : Int32).toInt := e_isub ea2 bd901 bc_1 (by decide) (by decide)
  have qe5 : zi1.toInt = zi901.toInt - 1 := by have ha : (1 : Int32).toInt = 1 := (by decide); rw [ha] at qe4; exact qe4
  refine lv_istore (lv' := [(5, .int zi1), (0, .ref qa900), (1, .int zi901), (2, .int zi902), (3, .long wl903)]) hx hb dX6_pick_3 hl (by decide) rfl (fun ls hl => ?_)
  have lp613 : ∀ (n611 : Nat) (zi439 : Int32) (H : Heap) (locs : List Loc) (ls : Array Slot), 16 - zi439.toInt < (n611 : Int) → ((0 : Int) ≤ zi439.toInt ∧ zi439.toInt ≤ 16) → lv_has ls 9 [(0, .ref qa900), (1, .int zi901), (2, .int zi902), (3, .long wl903), (5, .int zi439)] → PW G cy K ln Ls A hp0 H → va_S A s.heap H locs → W p l e ({ frames := 4, cells := 0, slots := 0, locals := 106 } : Room) s m ([.ref qa900, .int zi901, .int zi902, .long wl903] : List Value).toArray below meth c H locs 0 0 Q (F0 m 5 ls []) := by
    intro n611
    induction n611 with
    | zero =>
      intro zi439 H locs ls hm614 bd440 hl hw hS
      exact absurd hm614 (by have := bd440; omega)
    | succ n611 ih612 =>
      intro zi439 H locs ls hm614 bd440 hl hw hS
      refine lv_iload hx hb dX6_pick_5 (lv_at hl 4 rfl) ?_
      refine lv_if_lt (tgt := 114) hx hb dX6_pick_7 (by decide) (fun c => absurd c (d_nlt bd440 bc_0 (by decide))) (fun _ => ?_)
      refine lv_iload hx hb dX6_pick_10 (lv_at hl 4 rfl) ?_
      refine lv_iload_n hx hb dX6_pick_12 rfl (lv_at hl 2 rfl) ?_
      refine lv_icmp_ge (tgt := 114) hx hb dX6_pick_13 (by decide) (fun cn615 => ?_) (fun cn615 => ?_)
      · skip
        have bd616 : (-2147483648 : Int) ≤ zi902.toInt ∧ zi902.toInt ≤ 16 := r_le_x cn615 (b_all zi902) bd440 (by decide) (by decide)
        refine lv_iconst (v := 0) hx hb dX6_pick_114 (by decide) ?_
        rw [hQ]
        exact kz_i hx hb hr hlocks hS rfl hp0 hw ⟨ok0, (Fr.rf)⟩ (Nat.le_of_ble_eq_true rfl) (Nat.le_of_ble_eq_true rfl) dX6_pick_115
      · skip
        have bd617 : (1 : Int) ≤ zi902.toInt ∧ zi902.toInt ≤ 2147483647 := r_lt_y (Int32.not_le.mp cn615) bd440 (b_all zi902) (by decide) (by decide)
        refine lv_iload hx hb dX6_pick_16 (lv_at hl 4 rfl) ?_
        refine lv_aload_n hx hb dX6_pick_18 rfl (lv_at hl 0 rfl) ?_
        obtain ⟨zi619, eq618, bd620⟩ := rd_7003 ok0 kd900
        refine p_get (ci := 6) (v := .int zi619) (C := RX6) (T := TX6) (N := 6) hx hb hT iw_X6 hown hK hw hW kd900 (by decide) rfl rfl 3 (by decide) eq618 (hT _ tb_531) (fun _ h9 => h9) dX6_pick_19 ?_
        refine lv_icmp_ge (tgt := 114) hx hb dX6_pick_22 (by decide) (fun cn621 => ?_) (fun cn621 => ?_)
        · skip
          refine lv_iconst (v := 0) hx hb dX6_pick_114 (by decide) ?_
          rw [hQ]
          exact kz_i hx hb hr hlocks hS rfl hp0 hw ⟨ok0, (Fr.rf)⟩ (Nat.le_of_ble_eq_true rfl) (Nat.le_of_ble_eq_true rfl) dX6_pick_115
        · skip
          have bd622 : (0 : Int) ≤ zi439.toInt ∧ zi439.toInt ≤ 15 := r_lt_x (Int32.not_le.mp cn621) bd440 bd620 (by decide) (by decide)
          have bd623 : (1 : Int) ≤ zi619.toInt ∧ zi619.toInt ≤ 16 := r_lt_y (Int32.not_le.mp cn621) bd440 bd620 (by decide) (by decide)
          refine lv_lload_n hx hb dX6_pick_25 rfl (lv_at hl 3 rfl) ?_
          refine lv_aload_n hx hb dX6_pick_26 rfl (lv_at hl 0 rfl) ?_
          obtain ⟨qa625, eq624, kd626⟩ := rd_7000 ok0 kd900
          refine p_get (ci := 6) (v := .ref qa625) (C := RX6) (T := TX6) (N := 6) hx hb hT iw_X6 hown hK hw hW kd900 (by decide) rfl rfl 0 (by decide) eq624 (hT _ tb_528) (fun _ h9 => h9) dX6_pick_27 ?_
          refine lv_iload hx hb dX6_pick_30 (lv_at hl 4 rfl) ?_
          obtain ⟨wl628, eq627⟩ := rd_37000 ok0 kd626 ((zi439 : Int32).toNatClampNeg)
          refine p_lald (v := wl628) hx hb hK hw hW kd626 (by decide) rfl (hW.len kd626 (n := 16) rfl (by decide)) (vp_b bd622 (by decide) (by decide)) eq627 dX6_pick_32 ?_
          refine lv_land hx hb dX6_pick_33 (lv_topl (fun wl629 _ => ?_))
          refine lv_lstore (lv' := [(6, .long wl629), (0, .ref qa900), (1, .int zi901), (2, .int zi902), (3, .long wl903), (5, .int zi439)]) hx hb dX6_pick_34 hl (by decide) rfl (fun ls hl => ?_)
          refine lv_iload_n hx hb dX6_pick_36 rfl (lv_at hl 2 rfl) ?_
          refine lv_iconst (v := 1) hx hb dX6_pick_37 (by decide) ?_
          refine lv_icmp_ne (tgt := 60) hx hb dX6_pick_38 (by decide) (fun cn630 => ?_) (fun cn630 => ?_)
          · skip
            have bd631 : (2 : Int) ≤ zi901.toInt ∧ zi901.toInt ≤ 4 := r_ne_lo cn630 bd901 (toi bc_1) (by decide) (by decide)
            refine lv_aload_n hx hb dX6_pick_60 rfl (lv_at hl 1 rfl) ?_
            refine lv_lload hx hb dX6_pick_61 (lv_at hl 0 rfl) ?_
            refine lv_aload_n hx hb dX6_pick_63 rfl (lv_at hl 1 rfl) ?_
            obtain ⟨qa633, eq632, kd634⟩ := rd_7002 ok0 kd900
            refine p_get (ci := 6) (v := .ref qa633) (C := RX6) (T := TX6) (N := 6) hx hb hT iw_X6 hown hK hw hW kd900 (by decide) rfl rfl 2 (by decide) eq632 (hT _ tb_530) (fun _ h9 => h9) dX6_pick_64 ?_
            refine lv_iload hx hb dX6_pick_67 (lv_at hl 5 rfl) ?_
            obtain ⟨wl636, eq635⟩ := rd_39000 ok0 kd634 ((zi439 : Int32).toNatClampNeg)
            refine p_lald (v := wl636) hx hb hK hw hW kd634 (by decide) rfl (hW.len kd634 (n := 17) rfl (by decide)) (vp_b bd622 (by decide) (by decide)) eq635 dX6_pick_69 ?_
            refine lv_land hx hb dX6_pick_70 (lv_topl (fun wl637 _ => ?_))
            refine kq_i hw hS hA (va_runV (As := [.long wl637]) (rest := []) ⟨hx, hb, hml, hown, hT⟩ (cX6_isEnough_0 l G cy ev K ln Ls hW _ hp0 ok0 qa900 wl637 kd900) (cwV 1 hT (good_V tb_1272 tb_1269 tb_1271 tb_43 tb_118) rfl rfl rfl (by decide +kernel) ⟨Nat.le_of_ble_eq_true rfl, Nat.le_of_ble_eq_true rfl⟩) (pool_preV (ci := 6) hK hE hS hA hw hW kd900 (by decide) rfl) rfl rfl hl.1 rfl (lv_room (Nat.le_of_ble_eq_true rfl)) dX6_pick_71 ⟨Nat.le_of_ble_eq_true rfl, Nat.le_of_ble_eq_true rfl⟩) (fun zi642 hp638 H locs hq641 hw hS => ?_)
            obtain ⟨ok639, F640, bd643⟩ := hq641
            obtain rfl : hp0 = hp638 := (Fr.nil F640).symm
            have hw : PW G cy K ln Ls A hp0 H := hw
            refine lv_if_eq (tgt := 108) hx hb dX6_pick_74 (by decide) (fun cn644 => ?_) (fun cn644 => ?_)
            · skip
              have bd645 : (0 : Int) ≤ zi642.toInt ∧ zi642.toInt ≤ 0 := r_eq_x cn644 bd643 bc_0 (by decide) (by decide)
              obtain ⟨zi646, ea647⟩ : ∃ z : Int32, z = zi439 + 1 := ⟨_, rfl⟩
              have bd648 : (1 : Int) ≤ zi646.toInt ∧ zi646.toInt ≤ 16 := b_iadd ea647 bd622 bc_1 (by decide) (by decide) (by decide) (by decide)
              have qe649 : zi646.toInt = (zi439 : Int32).toInt + (1 : Int32).toInt := e_iadd ea647 bd622 bc_1 (by decide) (by decide)
              have qe650 : zi646.toInt = zi439.toInt + 1 := by have ha : (1 : Int32).toInt = 1 := (by decide); rw [ha] at qe649; exact qe649
              refine lv_iinc (v := zi646) (lv' := [(5, .int zi646), (6, .long wl629), (0, .ref qa900), (1, .int zi901), (2, .int zi902), (3, .long wl903)]) hx hb dX6_pick_108 hl (k := 5) rfl ea647.symm (by decide) rfl (fun ls hl => ?_)
              refine lv_goto (tgt := 5) hx hb dX6_pick_111 (by decide) ?_
              exact ih612 zi646 _ _ ls (by have := hm614; have := qe650; omega) (b_wid2 bd648 (by decide) (by decide)) (lv_sub hl [2, 3, 4, 5, 0] rfl) hw hS
            · skip
              have bd651 : (1 : Int) ≤ zi642.toInt ∧ zi642.toInt ≤ 1 := r_ne_lo cn644 bd643 (toi bc_0) (by decide) (by decide)
              refine lv_aload_n hx hb dX6_pick_77 rfl (lv_at hl 1 rfl) ?_
              refine lv_iload_n hx hb dX6_pick_78 rfl (lv_at hl 2 rfl) ?_
              refine lv_iconst (v := 1) hx hb dX6_pick_79 (by decide) ?_
              refine lv_isub hx hb dX6_pick_80 (lv_topi (fun zi652 ea653 => ?_))
              have bd654 : (1 : Int) ≤ zi652.toInt ∧ zi652.toInt ≤ 3 := b_isub ea653 bd631 bc_1 (by decide) (by decide) (by decide) (by decide)
              have qe655 : zi652.toInt = (zi901 : Int32).toInt - (1 : Int32).toInt := e_isub ea653 bd631 bc_1 (by decide) (by decide)
              have qe656 : zi652.toInt = zi901.toInt - 1 := by have ha : (1 : Int32).toInt = 1 := (by decide); rw [ha] at qe655; exact qe655
              refine lv_iload hx hb dX6_pick_81 (lv_at hl 5 rfl) ?_
              refine lv_lload hx hb dX6_pick_83 (lv_at hl 0 rfl) ?_
              refine kq_i hw hS hA (va_runV (As := [.int zi652, .int zi439, .long wl629]) (rest := []) ⟨hx, hb, hml, hown, hT⟩ (cX6_pick_2 l G cy ev K ln Ls hW _ hp0 ok0 qa900 zi652 zi439 wl629 kd900 (b_wid2 bd654 (by decide) (by decide))) (cwV 3 hT (good_V tb_1277 tb_1274 tb_1276 tb_44 tb_118) rfl rfl rfl (by decide +kernel) ⟨Nat.le_of_ble_eq_true rfl, Nat.le_of_ble_eq_true rfl⟩) (pool_preV (ci := 6) hK hE hS hA hw hW kd900 (by decide) rfl) rfl rfl hl.1 rfl (lv_room (Nat.le_of_ble_eq_true rfl)) dX6_pick_85 ⟨Nat.le_of_ble_eq_true rfl, Nat.le_of_ble_eq_true rfl⟩) (fun zi661 hp657 H locs hq660 hw hS => ?_)
              obtain ⟨ok658, F659⟩ := hq660
              obtain rfl : hp0 = hp657 := (Fr.nil F659).symm
              have hw : PW G cy K ln Ls A hp0 H := hw
              refine lv_istore (lv' := [(8, .int zi661), (6, .long wl629), (0, .ref qa900), (1, .int zi901), (2, .int zi902), (3, .long wl903), (5, .int zi439)]) hx hb dX6_pick_88 hl (by decide) rfl (fun ls hl => ?_)
              refine lv_iload hx hb dX6_pick_90 (lv_at hl 0 rfl) ?_
              refine lv_if_eq (tgt := 108) hx hb dX6_pick_92 (by decide) (fun cn662 => ?_) (fun cn662 => ?_)
              · skip
                have bd663 : (0 : Int) ≤ zi661.toInt ∧ zi661.toInt ≤ 0 := r_eq_x cn662 (b_all zi661) bc_0 (by decide) (by decide)
                obtain ⟨zi664, ea665⟩ : ∃ z : Int32, z = zi439 + 1 := ⟨_, rfl⟩
                have bd666 : (1 : Int) ≤ zi664.toInt ∧ zi664.toInt ≤ 16 := b_iadd ea665 bd622 bc_1 (by decide) (by decide) (by decide) (by decide)
                have qe667 : zi664.toInt = (zi439 : Int32).toInt + (1 : Int32).toInt := e_iadd ea665 bd622 bc_1 (by decide) (by decide)
                have qe668 : zi664.toInt = zi439.toInt + 1 := by have ha : (1 : Int32).toInt = 1 := (by decide); rw [ha] at qe667; exact qe667
                refine lv_iinc (v := zi664) (lv' := [(5, .int zi664), (8, .int zi661), (6, .long wl629), (0, .ref qa900), (1, .int zi901), (2, .int zi902), (3, .long wl903)]) hx hb dX6_pick_108 hl (k := 6) rfl ea665.symm (by decide) rfl (fun ls hl => ?_)
                refine lv_goto (tgt := 5) hx hb dX6_pick_111 (by decide) ?_
                exact ih612 zi664 _ _ ls (by have := hm614; have := qe668; omega) (b_wid2 bd666 (by decide) (by decide)) (lv_sub hl [3, 4, 5, 6, 0] rfl) hw hS
              · skip
                refine lv_iload hx hb dX6_pick_95 (lv_at hl 0 rfl) ?_
                refine lv_iconst (v := 1) hx hb dX6_pick_97 (by decide) ?_
                refine lv_aload_n hx hb dX6_pick_98 rfl (lv_at hl 2 rfl) ?_
                obtain ⟨qa670, eq669, kd671⟩ := rd_7001 ok0 kd900
                refine p_get (ci := 6) (v := .ref qa670) (C := RX6) (T := TX6) (N := 6) hx hb hT iw_X6 hown hK hw hW kd900 (by decide) rfl rfl 1 (by decide) eq669 (hT _ tb_529) (fun _ h9 => h9) dX6_pick_99 ?_
                refine lv_iload hx hb dX6_pick_102 (lv_at hl 6 rfl) ?_
                obtain ⟨zi673, eq672⟩ := rd_38000 ok0 kd671 ((zi439 : Int32).toNatClampNeg)
                refine p_iald (v := zi673) hx hb hK hw hW kd671 (by decide) rfl (hW.len kd671 (n := 16) rfl (by decide)) (vp_b bd622 (by decide) (by decide)) eq672 dX6_pick_104 ?_
                refine lv_ishl hx hb dX6_pick_105 (lv_topi (fun zi674 ea675 => ?_))
                refine lv_ior hx hb dX6_pick_106 (lv_topi (fun zi676 ea677 => ?_))
                rw [hQ]
                exact kz_i hx hb hr hlocks hS rfl hp0 hw ⟨ok0, (Fr.rf)⟩ (Nat.le_of_ble_eq_true rfl) (Nat.le_of_ble_eq_true rfl) dX6_pick_107
          · skip
            have bd678 : (1 : Int) ≤ zi901.toInt ∧ zi901.toInt ≤ 1 := r_eq_x cn630 bd901 bc_1 (by decide) (by decide)
            refine lv_aload_n hx hb dX6_pick_41 rfl (lv_at hl 1 rfl) ?_
            refine lv_lload hx hb dX6_pick_42 (lv_at hl 0 rfl) ?_
            refine kq_i hw hS hA (va_runV (As := [.long wl629]) (rest := []) ⟨hx, hb, hml, hown, hT⟩ (cX6_isEnough_0 l G cy ev K ln Ls hW _ hp0 ok0 qa900 wl629 kd900) (cwV 1 hT (good_V tb_1272 tb_1269 tb_1271 tb_43 tb_118) rfl rfl rfl (by decide +kernel) ⟨Nat.le_of_ble_eq_true rfl, Nat.le_of_ble_eq_true rfl⟩) (pool_preV (ci := 6) hK hE hS hA hw hW kd900 (by decide) rfl) rfl rfl hl.1 rfl (lv_room (Nat.le_of_ble_eq_true rfl)) dX6_pick_44 ⟨Nat.le_of_ble_eq_true rfl, Nat.le_of_ble_eq_true rfl⟩) (fun zi683 hp679 H locs hq682 hw hS => ?_)
            obtain ⟨ok680, F681, bd684⟩ := hq682
            obtain rfl : hp0 = hp679 := (Fr.nil F681).symm
            have hw : PW G cy K ln Ls A hp0 H := hw
            refine lv_if_eq (tgt := 108) hx hb dX6_pick_47 (by decide) (fun cn685 => ?_) (fun cn685 => ?_)
            · skip
              have bd686 : (0 : Int) ≤ zi683.toInt ∧ zi683.toInt ≤ 0 := r_eq_x cn685 bd684 bc_0 (by decide) (by decide)
              obtain ⟨zi687, ea688⟩ : ∃ z : Int32, z = zi439 + 1 := ⟨_, rfl⟩
              have bd689 : (1 : Int) ≤ zi687.toInt ∧ zi687.toInt ≤ 16 := b_iadd ea688 bd622 bc_1 (by decide) (by decide) (by decide) (by decide)
              have qe690 : zi687.toInt = (zi439 : Int32).toInt + (1 : Int32).toInt := e_iadd ea688 bd622 bc_1 (by decide) (by decide)
              have qe691 : zi687.toInt = zi439.toInt + 1 := by have ha : (1 : Int32).toInt = 1 := (by decide); rw [ha] at qe690; exact qe690
              refine lv_iinc (v := zi687) (lv' := [(5, .int zi687), (6, .long wl629), (0, .ref qa900), (1, .int zi901), (2, .int zi902), (3, .long wl903)]) hx hb dX6_pick_108 hl (k := 5) rfl ea688.symm (by decide) rfl (fun ls hl => ?_)
              refine lv_goto (tgt := 5) hx hb dX6_pick_111 (by decide) ?_
              exact ih612 zi687 _ _ ls (by have := hm614; have := qe691; omega) (b_wid2 bd689 (by decide) (by decide)) (lv_sub hl [2, 3, 4, 5, 0] rfl) hw hS
            · skip
              have bd692 : (1 : Int) ≤ zi683.toInt ∧ zi683.toInt ≤ 1 := r_ne_lo cn685 bd684 (toi bc_0) (by decide) (by decide)
              refine lv_iconst (v := 1) hx hb dX6_pick_50 (by decide) ?_
              refine lv_aload_n hx hb dX6_pick_51 rfl (lv_at hl 1 rfl) ?_
              obtain ⟨qa694, eq693, kd695⟩ := rd_7001 ok0 kd900
              refine p_get (ci := 6) (v := .ref qa694) (C := RX6) (T := TX6) (N := 6) hx hb hT iw_X6 hown hK hw hW kd900 (by decide) rfl rfl 1 (by decide) eq693 (hT _ tb_529) (fun _ h9 => h9) dX6_pick_52 ?_
              refine lv_iload hx hb dX6_pick_55 (lv_at hl 5 rfl) ?_
              obtain ⟨zi697, eq696⟩ := rd_38000 ok0 kd695 ((zi439 : Int32).toNatClampNeg)
              refine p_iald (v := zi697) hx hb hK hw hW kd695 (by decide) rfl (hW.len kd695 (n := 16) rfl (by decide)) (vp_b bd622 (by decide) (by decide)) eq696 dX6_pick_57 ?_
              refine lv_ishl hx hb dX6_pick_58 (lv_topi (fun zi698 ea699 => ?_))
              rw [hQ]
              exact kz_i hx hb hr hlocks hS rfl hp0 hw ⟨ok0, (Fr.rf)⟩ (Nat.le_of_ble_eq_true rfl) (Nat.le_of_ble_eq_true rfl) dX6_pick_59
  exact lp613 _ zi1 _ _ ls (lp_in _) (b_wid2 bd3 (by decide) (by decide)) (lv_sub hl [1, 2, 3, 4, 0] rfl) hw hS

set_option maxRecDepth 100000 in
set_option maxHeartbeats 4000000 in
theorem cX6_pick_4 (l : Launch) (G : va_G) (cy : Nat → ClassId) (ev : Ew) (K ln : Nat → Nat) (Ls : List Nat) (hW : SW K ln Ls) (sz : Nat) (hp0 : Nat → Nat → Value) (ok0 : Ok K hp0) (qa900 : Nat) (zi901 : Int32) (zi902 : Int32) (wl903 : Int64) (kd900 : K qa900 = 7) (bd901 : ((1 : Int) ≤ zi901.toInt ∧ zi901.toInt ≤ 5)) : Met l yX6_pick (WS yX6_pick cX6_pick 9 (some .int)) { frames := 5, cells := 0, slots := 0, locals := 134 } (PB2 [.ref qa900, .int zi901, .int zi902, .long wl903] sz G cy ev (va_pl Ls (cellOf cy K ln hp0))) (QBi (S := (Nat → Nat → Value)) (fun (r : Int32) (u : (Nat → Nat → Value)) => Ok K u ∧ Fr [] K hp0 u) G (fun u => va_pl Ls (cellOf cy K ln u)) (va_A (va_pl Ls (cellOf cy K ln hp0)) sz)) 0 0 (va_A (va_pl Ls (cellOf cy K ln hp0)) sz) := by
  refine met_of2 (y := yX6_pick) (L := 9) (av := [.ref qa900, .int zi901, .int zi902, .long wl903]) (Qc := fun A => QBi (S := (Nat → Nat → Value)) (fun (r : Int32) (u : (Nat → Nat → Value)) => Ok K u ∧ Fr [] K hp0 u) G (fun u => va_pl Ls (cellOf cy K ln u)) A) (plainFor_of_name (by decide)) (Nat.le_of_ble_eq_true rfl) ?_
  intro p e s m below meth c hsz hx hb hr hml hown hT hlocks hin hK A hA hE hw hS ls hl
  have hw : PW G cy K ln Ls A hp0 s.heap := hw
  have hown : s.vm.findClass "LieClock$Sets" = some m.cls := hown
  have hl : lv_has ls 9 [(0, .ref qa900), (1, .int zi901), (2, .int zi902), (3, .long wl903)] := hl
  obtain ⟨Q, hQ⟩ : ∃ Q : State → Prop, Q = MQ below (QBi (S := (Nat → Nat → Value)) (fun (r : Int32) (u : (Nat → Nat → Value)) => Ok K u ∧ Fr [] K hp0 u) G (fun u => va_pl Ls (cellOf cy K ln u)) A) ([.ref qa900, .int zi901, .int zi902, .long wl903] : List Value).toArray s 0 0 A := ⟨_, rfl⟩
  rw [← hQ]
  refine lv_iload_n hx hb dX6_pick_0 rfl (lv_at hl 1 rfl) ?_
  refine lv_iconst (v := 1) hx hb dX6_pick_1 (by decide) ?_
  refine lv_isub hx hb dX6_pick_2 (lv_topi (fun zi1 ea2 => ?_))
  have bd3 : (0 : Int) ≤ zi1.toInt ∧ zi1.toInt ≤ 4 := b_isub ea2 bd901 bc_1 (by decide) (by decide) (by decide) (by decide)
  have qe4 : zi1.toInt = (zi901 : Int32).toInt - (1 : Int32).toInt := e_isub ea2 bd901 bc_1 (by decide) (by decide)
  have qe5 : zi1.toInt = zi901.toInt - 1 := by have ha : (1 : Int32).toInt = 1 := (by decide); rw [ha] at qe4; exact qe4
  refine lv_istore (lv' := [(5, .int zi1), (0, .ref qa900), (1, .int zi901), (2, .int zi902), (3, .long wl903)]) hx hb dX6_pick_3 hl (by decide) rfl (fun ls hl => ?_)
  have lp613 : ∀ (n611 : Nat) (zi439 : Int32) (H : Heap) (locs : List Loc) (ls : Array Slot), 16 - zi439.toInt < (n611 : Int) → ((0 : Int) ≤ zi439.toInt ∧ zi439.toInt ≤ 16) → lv_has ls 9 [(0, .ref qa900), (1, .int zi901), (2, .int zi902), (3, .long wl903), (5, .int zi439)] → PW G cy K ln Ls A hp0 H → va_S A s.heap H locs → W p l e ({ frames := 5, cells := 0, slots := 0, locals := 134 } : Room) s m ([.ref qa900, .int zi901, .int zi902, .long wl903] : List Value).toArray below meth c H locs 0 0 Q (F0 m 5 ls []) := by
    intro n611
    induction n611 with
    | zero =>
      intro zi439 H locs ls hm614 bd440 hl hw hS
      exact absurd hm614 (by have := bd440; omega)
    | succ n611 ih612 =>
      intro zi439 H locs ls hm614 bd440 hl hw hS
      refine lv_iload hx hb dX6_pick_5 (lv_at hl 4 rfl) ?_
      refine lv_if_lt (tgt := 114) hx hb dX6_pick_7 (by decide) (fun c => absurd c (d_nlt bd440 bc_0 (by decide))) (fun _ => ?_)
      refine lv_iload hx hb dX6_pick_10 (lv_at hl 4 rfl) ?_
      refine lv_iload_n hx hb dX6_pick_12 rfl (lv_at hl 2 rfl) ?_
      refine lv_icmp_ge (tgt := 114) hx hb dX6_pick_13 (by decide) (fun cn615 => ?_) (fun cn615 => ?_)
      · skip
        have bd616 : (-2147483648 : Int) ≤ zi902.toInt ∧ zi902.toInt ≤ 16 := r_le_x cn615 (b_all zi902) bd440 (by decide) (by decide)
        refine lv_iconst (v := 0) hx hb dX6_pick_114 (by decide) ?_
        rw [hQ]
        exact kz_i hx hb hr hlocks hS rfl hp0 hw ⟨ok0, (Fr.rf)⟩ (Nat.le_of_ble_eq_true rfl) (Nat.le_of_ble_eq_true rfl) dX6_pick_115
      · skip
        have bd617 : (1 : Int) ≤ zi902.toInt ∧ zi902.toInt ≤ 2147483647 := r_lt_y (Int32.not_le.mp cn615) bd440 (b_all zi902) (by decide) (by decide)
        refine lv_iload hx hb dX6_pick_16 (lv_at hl 4 rfl) ?_
        refine lv_aload_n hx hb dX6_pick_18 rfl (lv_at hl 0 rfl) ?_
        obtain ⟨zi619, eq618, bd620⟩ := rd_7003 ok0 kd900
        refine p_get (ci := 6) (v := .int zi619) (C := RX6) (T := TX6) (N := 6) hx hb hT iw_X6 hown hK hw hW kd900 (by decide) rfl rfl 3 (by decide) eq618 (hT _ tb_531) (fun _ h9 => h9) dX6_pick_19 ?_
        refine lv_icmp_ge (tgt := 114) hx hb dX6_pick_22 (by decide) (fun cn621 => ?_) (fun cn621 => ?_)
        · skip
          refine lv_iconst (v := 0) hx hb dX6_pick_114 (by decide) ?_
          rw [hQ]
          exact kz_i hx hb hr hlocks hS rfl hp0 hw ⟨ok0, (Fr.rf)⟩ (Nat.le_of_ble_eq_true rfl) (Nat.le_of_ble_eq_true rfl) dX6_pick_115
        · skip
          have bd622 : (0 : Int) ≤ zi439.toInt ∧ zi439.toInt ≤ 15 := r_lt_x (Int32.not_le.mp cn621) bd440 bd620 (by decide) (by decide)
          have bd623 : (1 : Int) ≤ zi619.toInt ∧ zi619.toInt ≤ 16 := r_lt_y (Int32.not_le.mp cn621) bd440 bd620 (by decide) (by decide)
          refine lv_lload_n hx hb dX6_pick_25 rfl (lv_at hl 3 rfl) ?_
          refine lv_aload_n hx hb dX6_pick_26 rfl (lv_at hl 0 rfl) ?_
          obtain ⟨qa625, eq624, kd626⟩ := rd_7000 ok0 kd900
          refine p_get (ci := 6) (v := .ref qa625) (C := RX6) (T := TX6) (N := 6) hx hb hT iw_X6 hown hK hw hW kd900 (by decide) rfl rfl 0 (by decide) eq624 (hT _ tb_528) (fun _ h9 => h9) dX6_pick_27 ?_
          refine lv_iload hx hb dX6_pick_30 (lv_at hl 4 rfl) ?_
          obtain ⟨wl628, eq627⟩ := rd_37000 ok0 kd626 ((zi439 : Int32).toNatClampNeg)
          refine p_lald (v := wl628) hx hb hK hw hW kd626 (by decide) rfl (hW.len kd626 (n := 16) rfl (by decide)) (vp_b bd622 (by decide) (by decide)) eq627 dX6_pick_32 ?_
          refine lv_land hx hb dX6_pick_33 (lv_topl (fun wl629 _ => ?_))
          refine lv_lstore (lv' := [(6, .long wl629), (0, .ref qa900), (1, .int zi901), (2, .int zi902), (3, .long wl903), (5, .int zi439)]) hx hb dX6_pick_34 hl (by decide) rfl (fun ls hl => ?_)
          refine lv_iload_n hx hb dX6_pick_36 rfl (lv_at hl 2 rfl) ?_
          refine lv_iconst (v := 1) hx hb dX6_pick_37 (by decide) ?_
          refine lv_icmp_ne (tgt := 60) hx hb dX6_pick_38 (by decide) (fun cn630 => ?_) (fun cn630 => ?_)
          · skip
            have bd631 : (2 : Int) ≤ zi901.toInt ∧ zi901.toInt ≤ 5 := r_ne_lo cn630 bd901 (toi bc_1) (by decide) (by decide)
            refine lv_aload_n hx hb dX6_pick_60 rfl (lv_at hl 1 rfl) ?_
            refine lv_lload hx hb dX6_pick_61 (lv_at hl 0 rfl) ?_
            refine lv_aload_n hx hb dX6_pick_63 rfl (lv_at hl 1 rfl) ?_
            obtain ⟨qa633, eq632, kd634⟩ := rd_7002 ok0 kd900
            refine p_get (ci := 6) (v := .ref qa633) (C := RX6) (T := TX6) (N := 6) hx hb hT iw_X6 hown hK hw hW kd900 (by decide) rfl rfl 2 (by decide) eq632 (hT _ tb_530) (fun _ h9 => h9) dX6_pick_64 ?_
            refine lv_iload hx hb dX6_pick_67 (lv_at hl 5 rfl) ?_
            obtain ⟨wl636, eq635⟩ := rd_39000 ok0 kd634 ((zi439 : Int32).toNatClampNeg)
            refine p_lald (v := wl636) hx hb hK hw hW kd634 (by decide) rfl (hW.len kd634 (n := 17) rfl (by decide)) (vp_b bd622 (by decide) (by decide)) eq635 dX6_pick_69 ?_
            refine lv_land hx hb dX6_pick_70 (lv_topl (fun wl637 _ => ?_))
            refine kq_i hw hS hA (va_runV (As := [.long wl637]) (rest := []) ⟨hx, hb, hml, hown, hT⟩ (cX6_isEnough_0 l G cy ev K ln Ls hW _ hp0 ok0 qa900 wl637 kd900) (cwV 1 hT (good_V tb_1272 tb_1269 tb_1271 tb_43 tb_118) rfl rfl rfl (by decide +kernel) ⟨Nat.le_of_ble_eq_true rfl, Nat.le_of_ble_eq_true rfl⟩) (pool_preV (ci := 6) hK hE hS hA hw hW kd900 (by decide) rfl) rfl rfl hl.1 rfl (lv_room (Nat.le_of_ble_eq_true rfl)) dX6_pick_71 ⟨Nat.le_of_ble_eq_true rfl, Nat.le_of_ble_eq_true rfl⟩) (fun zi642 hp638 H locs hq641 hw hS => ?_)
            obtain ⟨ok639, F640, bd643⟩ := hq641
            obtain rfl : hp0 = hp638 := (Fr.nil F640).symm
            have hw : PW G cy K ln Ls A hp0 H := hw
            refine lv_if_eq (tgt := 108) hx hb dX6_pick_74 (by decide) (fun cn644 => ?_) (fun cn644 => ?_)
            · skip
              have bd645 : (0 : Int) ≤ zi642.toInt ∧ zi642.toInt ≤ 0 := r_eq_x cn644 bd643 bc_0 (by decide) (by decide)
              obtain ⟨zi646, ea647⟩ : ∃ z : Int32, z = zi439 + 1 := ⟨_, rfl⟩
              have bd648 : (1 : Int) ≤ zi646.toInt ∧ zi646.toInt ≤ 16 := b_iadd ea647 bd622 bc_1 (by decide) (by decide) (by decide) (by decide)
              have qe649 : zi646.toInt = (zi439 : Int32).toInt + (1 : Int32).toInt := e_iadd ea647 bd622 bc_1 (by decide) (by decide)
              have qe650 : zi646.toInt = zi439.toInt + 1 := by have ha : (1 : Int32).toInt = 1 := (by decide); rw [ha] at qe649; exact qe649
              refine lv_iinc (v := zi646) (lv' := [(5, .int zi646), (6, .long wl629), (0, .ref qa900), (1, .int zi901), (2, .int zi902), (3, .long wl903)]) hx hb dX6_pick_108 hl (k := 5) rfl ea647.symm (by decide) rfl (fun ls hl => ?_)
              refine lv_goto (tgt := 5) hx hb dX6_pick_111 (by decide) ?_
              exact ih612 zi646 _ _ ls (by have := hm614; have := qe650; omega) (b_wid2 bd648 (by decide) (by decide)) (lv_sub hl [2, 3, 4, 5, 0] rfl) hw hS
            · skip
              have bd651 : (1 : Int) ≤ zi642.toInt ∧ zi642.toInt ≤ 1 := r_ne_lo cn644 bd643 (toi bc_0) (by decide) (by decide)
              refine lv_aload_n hx hb dX6_pick_77 rfl (lv_at hl 1 rfl) ?_
              refine lv_iload_n hx hb dX6_pick_78 rfl (lv_at hl 2 rfl) ?_
              refine lv_iconst (v := 1) hx hb dX6_pick_79 (by decide) ?_
              refine lv_isub hx hb dX6_pick_80 (lv_topi (fun zi652 ea653 => ?_))
              have bd654 : (1 : Int) ≤ zi652.toInt ∧ zi652.toInt ≤ 4 := b_isub ea653 bd631 bc_1 (by decide) (by decide) (by decide) (by decide)
              have qe655 : zi652.toInt = (zi901 : Int32).toInt - (1 : Int32).toInt := e_isub ea653 bd631 bc_1 (by decide) (by decide)
              have qe656 : zi652.toInt = zi901.toInt - 1 := by have ha : (1 : Int32).toInt = 1 := (by decide); rw [ha] at qe655; exact qe655
              refine lv_iload hx hb dX6_pick_81 (lv_at hl 5 rfl) ?_
              refine lv_lload hx hb dX6_pick_83 (lv_at hl 0 rfl) ?_
              refine kq_i hw hS hA (va_runV (As := [.int zi652, .int zi439, .long wl629]) (rest := []) ⟨hx, hb, hml, hown, hT⟩ (cX6_pick_3 l G cy ev K ln Ls hW _ hp0 ok0 qa900 zi652 zi439 wl629 kd900 (b_wid2 bd654 (by decide) (by decide))) (cwV 3 hT (good_V tb_1277 tb_1274 tb_1276 tb_44 tb_118) rfl rfl rfl (by decide +kernel) ⟨Nat.le_of_ble_eq_true rfl, Nat.le_of_ble_eq_true rfl⟩) (pool_preV (ci := 6) hK hE hS hA hw hW kd900 (by decide) rfl) rfl rfl hl.1 rfl (lv_room (Nat.le_of_ble_eq_true rfl)) dX6_pick_85 ⟨Nat.le_of_ble_eq_true rfl, Nat.le_of_ble_eq_true rfl⟩) (fun zi661 hp657 H locs hq660 hw hS => ?_)
              obtain ⟨ok658, F659⟩ := hq660
              obtain rfl : hp0 = hp657 := (Fr.nil F659).symm
              have hw : PW G cy K ln Ls A hp0 H := hw
              refine lv_istore (lv' := [(8, .int zi661), (6, .long wl629), (0, .ref qa900), (1, .int zi901), (2, .int zi902), (3, .long wl903), (5, .int zi439)]) hx hb dX6_pick_88 hl (by decide) rfl (fun ls hl => ?_)
              refine lv_iload hx hb dX6_pick_90 (lv_at hl 0 rfl) ?_
              refine lv_if_eq (tgt := 108) hx hb dX6_pick_92 (by decide) (fun cn662 => ?_) (fun cn662 => ?_)
              · skip
                have bd663 : (0 : Int) ≤ zi661.toInt ∧ zi661.toInt ≤ 0 := r_eq_x cn662 (b_all zi661) bc_0 (by decide) (by decide)
                obtain ⟨zi664, ea665⟩ : ∃ z : Int32, z = zi439 + 1 := ⟨_, rfl⟩
                have bd666 : (1 : Int) ≤ zi664.toInt ∧ zi664.toInt ≤ 16 := b_iadd ea665 bd622 bc_1 (by decide) (by decide) (by decide) (by decide)
                have qe667 : zi664.toInt = (zi439 : Int32).toInt + (1 : Int32).toInt := e_iadd ea665 bd622 bc_1 (by decide) (by decide)
                have qe668 : zi664.toInt = zi439.toInt + 1 := by have ha : (1 : Int32).toInt = 1 := (by decide); rw [ha] at qe667; exact qe667
                refine lv_iinc (v := zi664) (lv' := [(5, .int zi664), (8, .int zi661), (6, .long wl629), (0, .ref qa900), (1, .int zi901), (2, .int zi902), (3, .long wl903)]) hx hb dX6_pick_108 hl (k := 6) rfl ea665.symm (by decide) rfl (fun ls hl => ?_)
                refine lv_goto (tgt := 5) hx hb dX6_pick_111 (by decide) ?_
                exact ih612 zi664 _ _ ls (by have := hm614; have := qe668; omega) (b_wid2 bd666 (by decide) (by decide)) (lv_sub hl [3, 4, 5, 6, 0] rfl) hw hS
              · skip
                refine lv_iload hx hb dX6_pick_95 (lv_at hl 0 rfl) ?_
                refine lv_iconst (v := 1) hx hb dX6_pick_97 (by decide) ?_
                refine lv_aload_n hx hb dX6_pick_98 rfl (lv_at hl 2 rfl) ?_
                obtain ⟨qa670, eq669, kd671⟩ := rd_7001 ok0 kd900
                refine p_get (ci := 6) (v := .ref qa670) (C := RX6) (T := TX6) (N := 6) hx hb hT iw_X6 hown hK hw hW kd900 (by decide) rfl rfl 1 (by decide) eq669 (hT _ tb_529) (fun _ h9 => h9) dX6_pick_99 ?_
                refine lv_iload hx hb dX6_pick_102 (lv_at hl 6 rfl) ?_
                obtain ⟨zi673, eq672⟩ := rd_38000 ok0 kd671 ((zi439 : Int32).toNatClampNeg)
                refine p_iald (v := zi673) hx hb hK hw hW kd671 (by decide) rfl (hW.len kd671 (n := 16) rfl (by decide)) (vp_b bd622 (by decide) (by decide)) eq672 dX6_pick_104 ?_
                refine lv_ishl hx hb dX6_pick_105 (lv_topi (fun zi674 ea675 => ?_))
                refine lv_ior hx hb dX6_pick_106 (lv_topi (fun zi676 ea677 => ?_))
                rw [hQ]
                exact kz_i hx hb hr hlocks hS rfl hp0 hw ⟨ok0, (Fr.rf)⟩ (Nat.le_of_ble_eq_true rfl) (Nat.le_of_ble_eq_true rfl) dX6_pick_107
          · skip
            have bd678 : (1 : Int) ≤ zi901.toInt ∧ zi901.toInt ≤ 1 := r_eq_x cn630 bd901 bc_1 (by decide) (by decide)
            refine lv_aload_n hx hb dX6_pick_41 rfl (lv_at hl 1 rfl) ?_
            refine lv_lload hx hb dX6_pick_42 (lv_at hl 0 rfl) ?_
            refine kq_i hw hS hA (va_runV (As := [.long wl629]) (rest := []) ⟨hx, hb, hml, hown, hT⟩ (cX6_isEnough_0 l G cy ev K ln Ls hW _ hp0 ok0 qa900 wl629 kd900) (cwV 1 hT (good_V tb_1272 tb_1269 tb_1271 tb_43 tb_118) rfl rfl rfl (by decide +kernel) ⟨Nat.le_of_ble_eq_true rfl, Nat.le_of_ble_eq_true rfl⟩) (pool_preV (ci := 6) hK hE hS hA hw hW kd900 (by decide) rfl) rfl rfl hl.1 rfl (lv_room (Nat.le_of_ble_eq_true rfl)) dX6_pick_44 ⟨Nat.le_of_ble_eq_true rfl, Nat.le_of_ble_eq_true rfl⟩) (fun zi683 hp679 H locs hq682 hw hS => ?_)
            obtain ⟨ok680, F681, bd684⟩ := hq682
            obtain rfl : hp0 = hp679 := (Fr.nil F681).symm
            have hw : PW G cy K ln Ls A hp0 H := hw
            refine lv_if_eq (tgt := 108) hx hb dX6_pick_47 (by decide) (fun cn685 => ?_) (fun cn685 => ?_)
            · skip
              have bd686 : (0 : Int) ≤ zi683.toInt ∧ zi683.toInt ≤ 0 := r_eq_x cn685 bd684 bc_0 (by decide) (by decide)
              obtain ⟨zi687, ea688⟩ : ∃ z : Int32, z = zi439 + 1 := ⟨_, rfl⟩
              have bd689 : (1 : Int) ≤ zi687.toInt ∧ zi687.toInt ≤ 16 := b_iadd ea688 bd622 bc_1 (by decide) (by decide) (by decide) (by decide)
              have qe690 : zi687.toInt = (zi439 : Int32).toInt + (1 : Int32).toInt := e_iadd ea688 bd622 bc_1 (by decide) (by decide)
              have qe691 : zi687.toInt = zi439.toInt + 1 := by have ha : (1 : Int32).toInt = 1 := (by decide); rw [ha] at qe690; exact qe690
              refine lv_iinc (v := zi687) (lv' := [(5, .int zi687), (6, .long wl629), (0, .ref qa900), (1, .int zi901), (2, .int zi902), (3, .long wl903)]) hx hb dX6_pick_108 hl (k := 5) rfl ea688.symm (by decide) rfl (fun ls hl => ?_)
              refine lv_goto (tgt := 5) hx hb dX6_pick_111 (by decide) ?_
              exact ih612 zi687 _ _ ls (by have := hm614; have := qe691; omega) (b_wid2 bd689 (by decide) (by decide)) (lv_sub hl [2, 3, 4, 5, 0] rfl) hw hS
            · skip
              have bd692 : (1 : Int) ≤ zi683.toInt ∧ zi683.toInt ≤ 1 := r_ne_lo cn685 bd684 (toi bc_0) (by decide) (by decide)
              refine lv_iconst (v := 1) hx hb dX6_pick_50 (by decide) ?_
              refine lv_aload_n hx hb dX6_pick_51 rfl (lv_at hl 1 rfl) ?_
              obtain ⟨qa694, eq693, kd695⟩ := rd_7001 ok0 kd900
              refine p_get (ci := 6) (v := .ref qa694) (C := RX6) (T := TX6) (N := 6) hx hb hT iw_X6 hown hK hw hW kd900 (by decide) rfl rfl 1 (by decide) eq693 (hT _ tb_529) (fun _ h9 => h9) dX6_pick_52 ?_
              refine lv_iload hx hb dX6_pick_55 (lv_at hl 5 rfl) ?_
              obtain ⟨zi697, eq696⟩ := rd_38000 ok0 kd695 ((zi439 : Int32).toNatClampNeg)
              refine p_iald (v := zi697) hx hb hK hw hW kd695 (by decide) rfl (hW.len kd695 (n := 16) rfl (by decide)) (vp_b bd622 (by decide) (by decide)) eq696 dX6_pick_57 ?_
              refine lv_ishl hx hb dX6_pick_58 (lv_topi (fun zi698 ea699 => ?_))
              rw [hQ]
              exact kz_i hx hb hr hlocks hS rfl hp0 hw ⟨ok0, (Fr.rf)⟩ (Nat.le_of_ble_eq_true rfl) (Nat.le_of_ble_eq_true rfl) dX6_pick_59
  exact lp613 _ zi1 _ _ ls (lp_in _) (b_wid2 bd3 (by decide) (by decide)) (lv_sub hl [1, 2, 3, 4, 0] rfl) hw hS

set_option maxRecDepth 100000 in
set_option maxHeartbeats 4000000 in
theorem cX6_pick_5 (l : Launch) (G : va_G) (cy : Nat → ClassId) (ev : Ew) (K ln : Nat → Nat) (Ls : List Nat) (hW : SW K ln Ls) (sz : Nat) (hp0 : Nat → Nat → Value) (ok0 : Ok K hp0) (qa900 : Nat) (zi901 : Int32) (zi902 : Int32) (wl903 : Int64) (kd900 : K qa900 = 7) (bd901 : ((1 : Int) ≤ zi901.toInt ∧ zi901.toInt ≤ 6)) : Met l yX6_pick (WS yX6_pick cX6_pick 9 (some .int)) { frames := 6, cells := 0, slots := 0, locals := 162 } (PB2 [.ref qa900, .int zi901, .int zi902, .long wl903] sz G cy ev (va_pl Ls (cellOf cy K ln hp0))) (QBi (S := (Nat → Nat → Value)) (fun (r : Int32) (u : (Nat → Nat → Value)) => Ok K u ∧ Fr [] K hp0 u) G (fun u => va_pl Ls (cellOf cy K ln u)) (va_A (va_pl Ls (cellOf cy K ln hp0)) sz)) 0 0 (va_A (va_pl Ls (cellOf cy K ln hp0)) sz) := by
  refine met_of2 (y := yX6_pick) (L := 9) (av := [.ref qa900, .int zi901, .int zi902, .long wl903]) (Qc := fun A => QBi (S := (Nat → Nat → Value)) (fun (r : Int32) (u : (Nat → Nat → Value)) => Ok K u ∧ Fr [] K hp0 u) G (fun u => va_pl Ls (cellOf cy K ln u)) A) (plainFor_of_name (by decide)) (Nat.le_of_ble_eq_true rfl) ?_
  intro p e s m below meth c hsz hx hb hr hml hown hT hlocks hin hK A hA hE hw hS ls hl
  have hw : PW G cy K ln Ls A hp0 s.heap := hw
  have hown : s.vm.findClass "LieClock$Sets" = some m.cls := hown
  have hl : lv_has ls 9 [(0, .ref qa900), (1, .int zi901), (2, .int zi902), (3, .long wl903)] := hl
  obtain ⟨Q, hQ⟩ : ∃ Q : State → Prop, Q = MQ below (QBi (S := (Nat → Nat → Value)) (fun (r : Int32) (u : (Nat → Nat → Value)) => Ok K u ∧ Fr [] K hp0 u) G (fun u => va_pl Ls (cellOf cy K ln u)) A) ([.ref qa900, .int zi901, .int zi902, .long wl903] : List Value).toArray s 0 0 A := ⟨_, rfl⟩
  rw [← hQ]
  refine lv_iload_n hx hb dX6_pick_0 rfl (lv_at hl 1 rfl) ?_
  refine lv_iconst (v := 1) hx hb dX6_pick_1 (by decide) ?_
  refine lv_isub hx hb dX6_pick_2 (lv_topi (fun zi1 ea2 => ?_))
  have bd3 : (0 : Int) ≤ zi1.toInt ∧ zi1.toInt ≤ 5 := b_isub ea2 bd901 bc_1 (by decide) (by decide) (by decide) (by decide)
  have qe4 : zi1.toInt = (zi901 : Int32).toInt - (1 : Int32).toInt := e_isub ea2 bd901 bc_1 (by decide) (by decide)
  have qe5 : zi1.toInt = zi901.toInt - 1 := by have ha : (1 : Int32).toInt = 1 := (by decide); rw [ha] at qe4; exact qe4
  refine lv_istore (lv' := [(5, .int zi1), (0, .ref qa900), (1, .int zi901), (2, .int zi902), (3, .long wl903)]) hx hb dX6_pick_3 hl (by decide) rfl (fun ls hl => ?_)
  have lp613 : ∀ (n611 : Nat) (zi439 : Int32) (H : Heap) (locs : List Loc) (ls : Array Slot), 16 - zi439.toInt < (n611 : Int) → ((0 : Int) ≤ zi439.toInt ∧ zi439.toInt ≤ 16) → lv_has ls 9 [(0, .ref qa900), (1, .int zi901), (2, .int zi902), (3, .long wl903), (5, .int zi439)] → PW G cy K ln Ls A hp0 H → va_S A s.heap H locs → W p l e ({ frames := 6, cells := 0, slots := 0, locals := 162 } : Room) s m ([.ref qa900, .int zi901, .int zi902, .long wl903] : List Value).toArray below meth c H locs 0 0 Q (F0 m 5 ls []) := by
    intro n611
    induction n611 with
    | zero =>
      intro zi439 H locs ls hm614 bd440 hl hw hS
      exact absurd hm614 (by have := bd440; omega)
    | succ n611 ih612 =>
      intro zi439 H locs ls hm614 bd440 hl hw hS
      refine lv_iload hx hb dX6_pick_5 (lv_at hl 4 rfl) ?_
      refine lv_if_lt (tgt := 114) hx hb dX6_pick_7 (by decide) (fun c => absurd c (d_nlt bd440 bc_0 (by decide))) (fun _ => ?_)
      refine lv_iload hx hb dX6_pick_10 (lv_at hl 4 rfl) ?_
      refine lv_iload_n hx hb dX6_pick_12 rfl (lv_at hl 2 rfl) ?_
      refine lv_icmp_ge (tgt := 114) hx hb dX6_pick_13 (by decide) (fun cn615 => ?_) (fun cn615 => ?_)
      · skip
        have bd616 : (-2147483648 : Int) ≤ zi902.toInt ∧ zi902.toInt ≤ 16 := r_le_x cn615 (b_all zi902) bd440 (by decide) (by decide)
        refine lv_iconst (v := 0) hx hb dX6_pick_114 (by decide) ?_
        rw [hQ]
        exact kz_i hx hb hr hlocks hS rfl hp0 hw ⟨ok0, (Fr.rf)⟩ (Nat.le_of_ble_eq_true rfl) (Nat.le_of_ble_eq_true rfl) dX6_pick_115
      · skip
        have bd617 : (1 : Int) ≤ zi902.toInt ∧ zi902.toInt ≤ 2147483647 := r_lt_y (Int32.not_le.mp cn615) bd440 (b_all zi902) (by decide) (by decide)
        refine lv_iload hx hb dX6_pick_16 (lv_at hl 4 rfl) ?_
        refine lv_aload_n hx hb dX6_pick_18 rfl (lv_at hl 0 rfl) ?_
        obtain ⟨zi619, eq618, bd620⟩ := rd_7003 ok0 kd900
        refine p_get (ci := 6) (v := .int zi619) (C := RX6) (T := TX6) (N := 6) hx hb hT iw_X6 hown hK hw hW kd900 (by decide) rfl rfl 3 (by decide) eq618 (hT _ tb_531) (fun _ h9 => h9) dX6_pick_19 ?_
        refine lv_icmp_ge (tgt := 114) hx hb dX6_pick_22 (by decide) (fun cn621 => ?_) (fun cn621 => ?_)
        · skip
          refine lv_iconst (v := 0) hx hb dX6_pick_114 (by decide) ?_
          rw [hQ]
          exact kz_i hx hb hr hlocks hS rfl hp0 hw ⟨ok0, (Fr.rf)⟩ (Nat.le_of_ble_eq_true rfl) (Nat.le_of_ble_eq_true rfl) dX6_pick_115
        · skip
          have bd622 : (0 : Int) ≤ zi439.toInt ∧ zi439.toInt ≤ 15 := r_lt_x (Int32.not_le.mp cn621) bd440 bd620 (by decide) (by decide)
          have bd623 : (1 : Int) ≤ zi619.toInt ∧ zi619.toInt ≤ 16 := r_lt_y (Int32.not_le.mp cn621) bd440 bd620 (by decide) (by decide)
          refine lv_lload_n hx hb dX6_pick_25 rfl (lv_at hl 3 rfl) ?_
          refine lv_aload_n hx hb dX6_pick_26 rfl (lv_at hl 0 rfl) ?_
          obtain ⟨qa625, eq624, kd626⟩ := rd_7000 ok0 kd900
          refine p_get (ci := 6) (v := .ref qa625) (C := RX6) (T := TX6) (N := 6) hx hb hT iw_X6 hown hK hw hW kd900 (by decide) rfl rfl 0 (by decide) eq624 (hT _ tb_528) (fun _ h9 => h9) dX6_pick_27 ?_
          refine lv_iload hx hb dX6_pick_30 (lv_at hl 4 rfl) ?_
          obtain ⟨wl628, eq627⟩ := rd_37000 ok0 kd626 ((zi439 : Int32).toNatClampNeg)
          refine p_lald (v := wl628) hx hb hK hw hW kd626 (by decide) rfl (hW.len kd626 (n := 16) rfl (by decide)) (vp_b bd622 (by decide) (by decide)) eq627 dX6_pick_32 ?_
          refine lv_land hx hb dX6_pick_33 (lv_topl (fun wl629 _ => ?_))
          refine lv_lstore (lv' := [(6, .long wl629), (0, .ref qa900), (1, .int zi901), (2, .int zi902), (3, .long wl903), (5, .int zi439)]) hx hb dX6_pick_34 hl (by decide) rfl (fun ls hl => ?_)
          refine lv_iload_n hx hb dX6_pick_36 rfl (lv_at hl 2 rfl) ?_
          refine lv_iconst (v := 1) hx hb dX6_pick_37 (by decide) ?_
          refine lv_icmp_ne (tgt := 60) hx hb dX6_pick_38 (by decide) (fun cn630 => ?_) (fun cn630 => ?_)
          · skip
            have bd631 : (2 : Int) ≤ zi901.toInt ∧ zi901.toInt ≤ 6 := r_ne_lo cn630 bd901 (toi bc_1) (by decide) (by decide)
            refine lv_aload_n hx hb dX6_pick_60 rfl (lv_at hl 1 rfl) ?_
            refine lv_lload hx hb dX6_pick_61 (lv_at hl 0 rfl) ?_
            refine lv_aload_n hx hb dX6_pick_63 rfl (lv_at hl 1 rfl) ?_
            obtain ⟨qa633, eq632, kd634⟩ := rd_7002 ok0 kd900
            refine p_get (ci := 6) (v := .ref qa633) (C := RX6) (T := TX6) (N := 6) hx hb hT iw_X6 hown hK hw hW kd900 (by decide) rfl rfl 2 (by decide) eq632 (hT _ tb_530) (fun _ h9 => h9) dX6_pick_64 ?_
            refine lv_iload hx hb dX6_pick_67 (lv_at hl 5 rfl) ?_
            obtain ⟨wl636, eq635⟩ := rd_39000 ok0 kd634 ((zi439 : Int32).toNatClampNeg)
            refine p_lald (v := wl636) hx hb hK hw hW kd634 (by decide) rfl (hW.len kd634 (n := 17) rfl (by decide)) (vp_b bd622 (by decide) (by decide)) eq635 dX6_pick_69 ?_
            refine lv_land hx hb dX6_pick_70 (lv_topl (fun wl637 _ => ?_))
            refine kq_i hw hS hA (va_runV (As := [.long wl637]) (rest := []) ⟨hx, hb, hml, hown, hT⟩ (cX6_isEnough_0 l G cy ev K ln Ls hW _ hp0 ok0 qa900 wl637 kd900) (cwV 1 hT (good_V tb_1272 tb_1269 tb_1271 tb_43 tb_118) rfl rfl rfl (by decide +kernel) ⟨Nat.le_of_ble_eq_true rfl, Nat.le_of_ble_eq_true rfl⟩) (pool_preV (ci := 6) hK hE hS hA hw hW kd900 (by decide) rfl) rfl rfl hl.1 rfl (lv_room (Nat.le_of_ble_eq_true rfl)) dX6_pick_71 ⟨Nat.le_of_ble_eq_true rfl, Nat.le_of_ble_eq_true rfl⟩) (fun zi642 hp638 H locs hq641 hw hS => ?_)
            obtain ⟨ok639, F640, bd643⟩ := hq641
            obtain rfl : hp0 = hp638 := (Fr.nil F640).symm
            have hw : PW G cy K ln Ls A hp0 H := hw
            refine lv_if_eq (tgt := 108) hx hb dX6_pick_74 (by decide) (fun cn644 => ?_) (fun cn644 => ?_)
            · skip
              have bd645 : (0 : Int) ≤ zi642.toInt ∧ zi642.toInt ≤ 0 := r_eq_x cn644 bd643 bc_0 (by decide) (by decide)
              obtain ⟨zi646, ea647⟩ : ∃ z : Int32, z = zi439 + 1 := ⟨_, rfl⟩
              have bd648 : (1 : Int) ≤ zi646.toInt ∧ zi646.toInt ≤ 16 := b_iadd ea647 bd622 bc_1 (by decide) (by decide) (by decide) (by decide)
              have qe649 : zi646.toInt = (zi439 : Int32).toInt + (1 : Int32).toInt := e_iadd ea647 bd622 bc_1 (by decide) (by decide)
              have qe650 : zi646.toInt = zi439.toInt + 1 := by have ha : (1 : Int32).toInt = 1 := (by decide); rw [ha] at qe649; exact qe649
              refine lv_iinc (v := zi646) (lv' := [(5, .int zi646), (6, .long wl629), (0, .ref qa900), (1, .int zi901), (2, .int zi902), (3, .long wl903)]) hx hb dX6_pick_108 hl (k := 5) rfl ea647.symm (by decide) rfl (fun ls hl => ?_)
              refine lv_goto (tgt := 5) hx hb dX6_pick_111 (by decide) ?_
              exact ih612 zi646 _ _ ls (by have := hm614; have := qe650; omega) (b_wid2 bd648 (by decide) (by decide)) (lv_sub hl [2, 3, 4, 5, 0] rfl) hw hS
            · skip
              have bd651 : (1 : Int) ≤ zi642.toInt ∧ zi642.toInt ≤ 1 := r_ne_lo cn644 bd643 (toi bc_0) (by decide) (by decide)
              refine lv_aload_n hx hb dX6_pick_77 rfl (lv_at hl 1 rfl) ?_
              refine lv_iload_n hx hb dX6_pick_78 rfl (lv_at hl 2 rfl) ?_
              refine lv_iconst (v := 1) hx hb dX6_pick_79 (by decide) ?_
              refine lv_isub hx hb dX6_pick_80 (lv_topi (fun zi652 ea653 => ?_))
              have bd654 : (1 : Int) ≤ zi652.toInt ∧ zi652.toInt ≤ 5 := b_isub ea653 bd631 bc_1 (by decide) (by decide) (by decide) (by decide)
              have qe655 : zi652.toInt = (zi901 : Int32).toInt - (1 : Int32).toInt := e_isub ea653 bd631 bc_1 (by decide) (by decide)
              have qe656 : zi652.toInt = zi901.toInt - 1 := by have ha : (1 : Int32).toInt = 1 := (by decide); rw [ha] at qe655; exact qe655
              refine lv_iload hx hb dX6_pick_81 (lv_at hl 5 rfl) ?_
              refine lv_lload hx hb dX6_pick_83 (lv_at hl 0 rfl) ?_
              refine kq_i hw hS hA (va_runV (As := [.int zi652, .int zi439, .long wl629]) (rest := []) ⟨hx, hb, hml, hown, hT⟩ (cX6_pick_4 l G cy ev K ln Ls hW _ hp0 ok0 qa900 zi652 zi439 wl629 kd900 (b_wid2 bd654 (by decide) (by decide))) (cwV 3 hT (good_V tb_1277 tb_1274 tb_1276 tb_44 tb_118) rfl rfl rfl (by decide +kernel) ⟨Nat.le_of_ble_eq_true rfl, Nat.le_of_ble_eq_true rfl⟩) (pool_preV (ci := 6) hK hE hS hA hw hW kd900 (by decide) rfl) rfl rfl hl.1 rfl (lv_room (Nat.le_of_ble_eq_true rfl)) dX6_pick_85 ⟨Nat.le_of_ble_eq_true rfl, Nat.le_of_ble_eq_true rfl⟩) (fun zi661 hp657 H locs hq660 hw hS => ?_)
              obtain ⟨ok658, F659⟩ := hq660
              obtain rfl : hp0 = hp657 := (Fr.nil F659).symm
              have hw : PW G cy K ln Ls A hp0 H := hw
              refine lv_istore (lv' := [(8, .int zi661), (6, .long wl629), (0, .ref qa900), (1, .int zi901), (2, .int zi902), (3, .long wl903), (5, .int zi439)]) hx hb dX6_pick_88 hl (by decide) rfl (fun ls hl => ?_)
              refine lv_iload hx hb dX6_pick_90 (lv_at hl 0 rfl) ?_
              refine lv_if_eq (tgt := 108) hx hb dX6_pick_92 (by decide) (fun cn662 => ?_) (fun cn662 => ?_)
              · skip
                have bd663 : (0 : Int) ≤ zi661.toInt ∧ zi661.toInt ≤ 0 := r_eq_x cn662 (b_all zi661) bc_0 (by decide) (by decide)
                obtain ⟨zi664, ea665⟩ : ∃ z : Int32, z = zi439 + 1 := ⟨_, rfl⟩
                have bd666 : (1 : Int) ≤ zi664.toInt ∧ zi664.toInt ≤ 16 := b_iadd ea665 bd622 bc_1 (by decide) (by decide) (by decide) (by decide)
                have qe667 : zi664.toInt = (zi439 : Int32).toInt + (1 : Int32).toInt := e_iadd ea665 bd622 bc_1 (by decide) (by decide)
                have qe668 : zi664.toInt = zi439.toInt + 1 := by have ha : (1 : Int32).toInt = 1 := (by decide); rw [ha] at qe667; exact qe667
                refine lv_iinc (v := zi664) (lv' := [(5, .int zi664), (8, .int zi661), (6, .long wl629), (0, .ref qa900), (1, .int zi901), (2, .int zi902), (3, .long wl903)]) hx hb dX6_pick_108 hl (k := 6) rfl ea665.symm (by decide) rfl (fun ls hl => ?_)
                refine lv_goto (tgt := 5) hx hb dX6_pick_111 (by decide) ?_
                exact ih612 zi664 _ _ ls (by have := hm614; have := qe668; omega) (b_wid2 bd666 (by decide) (by decide)) (lv_sub hl [3, 4, 5, 6, 0] rfl) hw hS
              · skip
                refine lv_iload hx hb dX6_pick_95 (lv_at hl 0 rfl) ?_
                refine lv_iconst (v := 1) hx hb dX6_pick_97 (by decide) ?_
                refine lv_aload_n hx hb dX6_pick_98 rfl (lv_at hl 2 rfl) ?_
                obtain ⟨qa670, eq669, kd671⟩ := rd_7001 ok0 kd900
                refine p_get (ci := 6) (v := .ref qa670) (C := RX6) (T := TX6) (N := 6) hx hb hT iw_X6 hown hK hw hW kd900 (by decide) rfl rfl 1 (by decide) eq669 (hT _ tb_529) (fun _ h9 => h9) dX6_pick_99 ?_
                refine lv_iload hx hb dX6_pick_102 (lv_at hl 6 rfl) ?_
                obtain ⟨zi673, eq672⟩ := rd_38000 ok0 kd671 ((zi439 : Int32).toNatClampNeg)
                refine p_iald (v := zi673) hx hb hK hw hW kd671 (by decide) rfl (hW.len kd671 (n := 16) rfl (by decide)) (vp_b bd622 (by decide) (by decide)) eq672 dX6_pick_104 ?_
                refine lv_ishl hx hb dX6_pick_105 (lv_topi (fun zi674 ea675 => ?_))
                refine lv_ior hx hb dX6_pick_106 (lv_topi (fun zi676 ea677 => ?_))
                rw [hQ]
                exact kz_i hx hb hr hlocks hS rfl hp0 hw ⟨ok0, (Fr.rf)⟩ (Nat.le_of_ble_eq_true rfl) (Nat.le_of_ble_eq_true rfl) dX6_pick_107
          · skip
            have bd678 : (1 : Int) ≤ zi901.toInt ∧ zi901.toInt ≤ 1 := r_eq_x cn630 bd901 bc_1 (by decide) (by decide)
            refine lv_aload_n hx hb dX6_pick_41 rfl (lv_at hl 1 rfl) ?_
            refine lv_lload hx hb dX6_pick_42 (lv_at hl 0 rfl) ?_
            refine kq_i hw hS hA (va_runV (As := [.long wl629]) (rest := []) ⟨hx, hb, hml, hown, hT⟩ (cX6_isEnough_0 l G cy ev K ln Ls hW _ hp0 ok0 qa900 wl629 kd900) (cwV 1 hT (good_V tb_1272 tb_1269 tb_1271 tb_43 tb_118) rfl rfl rfl (by decide +kernel) ⟨Nat.le_of_ble_eq_true rfl, Nat.le_of_ble_eq_true rfl⟩) (pool_preV (ci := 6) hK hE hS hA hw hW kd900 (by decide) rfl) rfl rfl hl.1 rfl (lv_room (Nat.le_of_ble_eq_true rfl)) dX6_pick_44 ⟨Nat.le_of_ble_eq_true rfl, Nat.le_of_ble_eq_true rfl⟩) (fun zi683 hp679 H locs hq682 hw hS => ?_)
            obtain ⟨ok680, F681, bd684⟩ := hq682
            obtain rfl : hp0 = hp679 := (Fr.nil F681).symm
            have hw : PW G cy K ln Ls A hp0 H := hw
            refine lv_if_eq (tgt := 108) hx hb dX6_pick_47 (by decide) (fun cn685 => ?_) (fun cn685 => ?_)
            · skip
              have bd686 : (0 : Int) ≤ zi683.toInt ∧ zi683.toInt ≤ 0 := r_eq_x cn685 bd684 bc_0 (by decide) (by decide)
              obtain ⟨zi687, ea688⟩ : ∃ z : Int32, z = zi439 + 1 := ⟨_, rfl⟩
              have bd689 : (1 : Int) ≤ zi687.toInt ∧ zi687.toInt ≤ 16 := b_iadd ea688 bd622 bc_1 (by decide) (by decide) (by decide) (by decide)
              have qe690 : zi687.toInt = (zi439 : Int32).toInt + (1 : Int32).toInt := e_iadd ea688 bd622 bc_1 (by decide) (by decide)
              have qe691 : zi687.toInt = zi439.toInt + 1 := by have ha : (1 : Int32).toInt = 1 := (by decide); rw [ha] at qe690; exact qe690
              refine lv_iinc (v := zi687) (lv' := [(5, .int zi687), (6, .long wl629), (0, .ref qa900), (1, .int zi901), (2, .int zi902), (3, .long wl903)]) hx hb dX6_pick_108 hl (k := 5) rfl ea688.symm (by decide) rfl (fun ls hl => ?_)
              refine lv_goto (tgt := 5) hx hb dX6_pick_111 (by decide) ?_
              exact ih612 zi687 _ _ ls (by have := hm614; have := qe691; omega) (b_wid2 bd689 (by decide) (by decide)) (lv_sub hl [2, 3, 4, 5, 0] rfl) hw hS
            · skip
              have bd692 : (1 : Int) ≤ zi683.toInt ∧ zi683.toInt ≤ 1 := r_ne_lo cn685 bd684 (toi bc_0) (by decide) (by decide)
              refine lv_iconst (v := 1) hx hb dX6_pick_50 (by decide) ?_
              refine lv_aload_n hx hb dX6_pick_51 rfl (lv_at hl 1 rfl) ?_
              obtain ⟨qa694, eq693, kd695⟩ := rd_7001 ok0 kd900
              refine p_get (ci := 6) (v := .ref qa694) (C := RX6) (T := TX6) (N := 6) hx hb hT iw_X6 hown hK hw hW kd900 (by decide) rfl rfl 1 (by decide) eq693 (hT _ tb_529) (fun _ h9 => h9) dX6_pick_52 ?_
              refine lv_iload hx hb dX6_pick_55 (lv_at hl 5 rfl) ?_
              obtain ⟨zi697, eq696⟩ := rd_38000 ok0 kd695 ((zi439 : Int32).toNatClampNeg)
              refine p_iald (v := zi697) hx hb hK hw hW kd695 (by decide) rfl (hW.len kd695 (n := 16) rfl (by decide)) (vp_b bd622 (by decide) (by decide)) eq696 dX6_pick_57 ?_
              refine lv_ishl hx hb dX6_pick_58 (lv_topi (fun zi698 ea699 => ?_))
              rw [hQ]
              exact kz_i hx hb hr hlocks hS rfl hp0 hw ⟨ok0, (Fr.rf)⟩ (Nat.le_of_ble_eq_true rfl) (Nat.le_of_ble_eq_true rfl) dX6_pick_59
  exact lp613 _ zi1 _ _ ls (lp_in _) (b_wid2 bd3 (by decide) (by decide)) (lv_sub hl [1, 2, 3, 4, 0] rfl) hw hS
