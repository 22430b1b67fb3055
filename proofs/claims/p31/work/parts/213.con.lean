set_option maxRecDepth 100000 in
set_option maxHeartbeats 4000000 in
theorem cX12_takes_0 (l : Launch) (G : va_G) (cy : Nat → ClassId) (ev : Ew) (K ln : Nat → Nat) (Ls : List Nat) (hW : SW K ln Ls) (sz : Nat) (hp0 : Nat → Nat → Value) (ok0 : Ok K hp0) (qa900 : Nat) (wl901 : Int64) (kd900 : K qa900 = 13) (rp0 : (gi hp0 qa900 12) ≤ 6 + (gi hp0 qa900 13)) : Met l yX12_takes (WS yX12_takes cX12_takes 6 (some .boolean)) { frames := 2, cells := 0, slots := 0, locals := 41 } (PB2 [.ref qa900, .long wl901] sz G cy ev (va_pl Ls (cellOf cy K ln hp0))) (QBi (S := (Nat → Nat → Value)) (fun (r : Int32) (u : (Nat → Nat → Value)) => Ok K u ∧ Fr [13011, 13012, 13013, 13014, 86000, 87000] K hp0 u ∧ ((0 : Int) ≤ r.toInt ∧ r.toInt ≤ 1) ∧ (r = 1 → ∃ z : Int32, u qa900 11 = .int z ∧ ((1 : Int) ≤ z.toInt ∧ z.toInt ≤ 400)) ∧ (4*(gi u qa900 11) + (gi u qa900 13) ≥ 4*(gi hp0 qa900 11) + (gi hp0 qa900 13)) ∧ ((gi u qa900 13) ≥ (gi hp0 qa900 13)) ∧ ((gi u qa900 12) ≤ 6 + (gi u qa900 13)) ∧ (r = 0 → (gi u qa900 12) ≤ 7*(gi u qa900 13))) G (fun u => va_pl Ls (cellOf cy K ln u)) (va_A (va_pl Ls (cellOf cy K ln hp0)) sz)) 0 0 (va_A (va_pl Ls (cellOf cy K ln hp0)) sz) := by
  refine met_of2 (y := yX12_takes) (L := 6) (av := [.ref qa900, .long wl901]) (Qc := fun A => QBi (S := (Nat → Nat → Value)) (fun (r : Int32) (u : (Nat → Nat → Value)) => Ok K u ∧ Fr [13011, 13012, 13013, 13014, 86000, 87000] K hp0 u ∧ ((0 : Int) ≤ r.toInt ∧ r.toInt ≤ 1) ∧ (r = 1 → ∃ z : Int32, u qa900 11 = .int z ∧ ((1 : Int) ≤ z.toInt ∧ z.toInt ≤ 400)) ∧ (4*(gi u qa900 11) + (gi u qa900 13) ≥ 4*(gi hp0 qa900 11) + (gi hp0 qa900 13)) ∧ ((gi u qa900 13) ≥ (gi hp0 qa900 13)) ∧ ((gi u qa900 12) ≤ 6 + (gi u qa900 13)) ∧ (r = 0 → (gi u qa900 12) ≤ 7*(gi u qa900 13))) G (fun u => va_pl Ls (cellOf cy K ln u)) A) (plainFor_of_name (by decide)) (Nat.le_of_ble_eq_true rfl) ?_
  intro p e s m below meth c hsz hx hb hr hml hown hT hlocks hin hK A hA hE hw hS ls hl
  have hw : PW G cy K ln Ls A hp0 s.heap := hw
  have hown : s.vm.findClass "LieClockModel" = some m.cls := hown
  have hl : lv_has ls 6 [(0, .ref qa900), (1, .long wl901)] := hl
  obtain ⟨Q, hQ⟩ : ∃ Q : State → Prop, Q = MQ below (QBi (S := (Nat → Nat → Value)) (fun (r : Int32) (u : (Nat → Nat → Value)) => Ok K u ∧ Fr [13011, 13012, 13013, 13014, 86000, 87000] K hp0 u ∧ ((0 : Int) ≤ r.toInt ∧ r.toInt ≤ 1) ∧ (r = 1 → ∃ z : Int32, u qa900 11 = .int z ∧ ((1 : Int) ≤ z.toInt ∧ z.toInt ≤ 400)) ∧ (4*(gi u qa900 11) + (gi u qa900 13) ≥ 4*(gi hp0 qa900 11) + (gi hp0 qa900 13)) ∧ ((gi u qa900 13) ≥ (gi hp0 qa900 13)) ∧ ((gi u qa900 12) ≤ 6 + (gi u qa900 13)) ∧ (r = 0 → (gi u qa900 12) ≤ 7*(gi u qa900 13))) G (fun u => va_pl Ls (cellOf cy K ln u)) A) ([.ref qa900, .long wl901] : List Value).toArray s 0 0 A := ⟨_, rfl⟩
  rw [← hQ]
  obtain ⟨zi2, eq1, bd3⟩ := rd_13013 ok0 kd900
  obtain ⟨zi5, eq4, bd6⟩ := rd_13012 ok0 kd900
  obtain ⟨zi8, eq7, bd9⟩ := rd_13011 ok0 kd900
  have rq0 := rp0
  simp only [gi_of eq1, gi_of eq4] at rq0
  refine lv_lload_n hx hb dX12_takes_0 rfl (lv_at hl 1 rfl) ?_
  refine lv_lstore_n (lv' := [(3, .long wl901), (0, .ref qa900), (1, .long wl901)]) hx hb dX12_takes_1 rfl hl (by decide) rfl (fun ls hl => ?_)
  refine lv_iconst (v := 1) hx hb dX12_takes_2 (by decide) ?_
  refine lv_istore (lv' := [(5, .int 1), (3, .long wl901), (0, .ref qa900), (1, .long wl901)]) hx hb dX12_takes_3 hl (by decide) rfl (fun ls hl => ?_)
  have lp1111 : ∀ (n1109 : Nat) (hp674 : Nat → Nat → Value) (wl673 : Int64) (zi679 : Int32) (zi682 : Int32) (zi684 : Int32) (H : Heap) (locs : List Loc) (ls : Array Slot), 1602 - 4*zi679.toInt - zi682.toInt < (n1109 : Int) → Ok K hp674 → Fr [13011, 13012, 13013, 13014, 86000, 87000] K hp0 hp674 → ((0 : Int) ≤ zi679.toInt ∧ zi679.toInt ≤ 400) → hp674 qa900 11 = .int zi679 → ((0 : Int) ≤ zi682.toInt ∧ zi682.toInt ≤ 2) → hp674 qa900 13 = .int zi682 → ((0 : Int) ≤ zi684.toInt ∧ zi684.toInt ≤ 7) → hp674 qa900 12 = .int zi684 → (4*zi679.toInt + zi682.toInt ≥ 4*zi8.toInt + zi2.toInt) → (zi682.toInt ≥ zi2.toInt) → (zi684.toInt ≤ 6 + zi682.toInt) → lv_has ls 6 [(0, .ref qa900), (3, .long wl673), (5, .int 1)] → PW G cy K ln Ls A hp674 H → va_S A s.heap H locs → W p l e ({ frames := 2, cells := 0, slots := 0, locals := 41 } : Room) s m ([.ref qa900, .long wl901] : List Value).toArray below meth c H locs 0 0 Q (F0 m 5 ls []) := by
    intro n1109
    induction n1109 with
    | zero =>
      intro hp674 wl673 zi679 zi682 zi684 H locs ls hm1112 ok676 F675 bd688 eq678 bd689 eq681 bd690 eq683 rq685 rq686 rq687 hl hw hS
      exact absurd hm1112 (by omega)
    | succ n1109 ih1110 =>
      intro hp674 wl673 zi679 zi682 zi684 H locs ls hm1112 ok676 F675 bd688 eq678 bd689 eq681 bd690 eq683 rq685 rq686 rq687 hl hw hS
      refine lv_iload hx hb dX12_takes_5 (lv_at hl 2 rfl) ?_
      refine lv_if_eq (tgt := 165) hx hb dX12_takes_7 (by decide) (fun c => absurd c (d_ne bc_1 bc_0 (by decide))) (fun _ => ?_)
      refine lv_aload_n hx hb dX12_takes_10 rfl (lv_at hl 0 rfl) ?_
      obtain ⟨qa1114, eq1113, kd1115⟩ := rd_13042 ok676 kd900
      refine p_get (ci := 12) (v := .ref qa1114) (C := RX12) (T := TX12) (N := 69) hx hb hT iw_X12 hown hK hw hW kd900 (by decide) rfl rfl 42 (by decide) eq1113 (hT _ tb_1416) (fun _ h9 => h9) dX12_takes_11 ?_
      refine lv_aload_n hx hb dX12_takes_14 rfl (lv_at hl 0 rfl) ?_
      refine p_get (ci := 12) (v := .int zi684) (C := RX12) (T := TX12) (N := 69) hx hb hT iw_X12 hown hK hw hW kd900 (by decide) rfl rfl 12 (by decide) eq683 (hT _ tb_1386) (fun _ h9 => h9) dX12_takes_15 ?_
      refine lv_dup2_11 hx hb dX12_takes_18 rfl rfl ?_
      obtain ⟨wl1117, eq1116⟩ := rd_87000 ok676 kd1115 ((zi684 : Int32).toNatClampNeg)
      refine p_lald (v := wl1117) hx hb hK hw hW kd1115 (by decide) rfl (hW.len kd1115 (n := 8) rfl (by decide)) (vp_b bd690 (by decide) (by decide)) eq1116 dX12_takes_19 ?_
      refine lv_aload_n hx hb dX12_takes_20 rfl (lv_at hl 0 rfl) ?_
      obtain ⟨qa1119, eq1118, kd1120⟩ := rd_13043 ok676 kd900
      refine p_get (ci := 12) (v := .ref qa1119) (C := RX12) (T := TX12) (N := 69) hx hb hT iw_X12 hown hK hw hW kd900 (by decide) rfl rfl 43 (by decide) eq1118 (hT _ tb_1417) (fun _ h9 => h9) dX12_takes_21 ?_
      refine lv_aload_n hx hb dX12_takes_24 rfl (lv_at hl 0 rfl) ?_
      refine p_get (ci := 12) (v := .int zi684) (C := RX12) (T := TX12) (N := 69) hx hb hT iw_X12 hown hK hw hW kd900 (by decide) rfl rfl 12 (by decide) eq683 (hT _ tb_1386) (fun _ h9 => h9) dX12_takes_25 ?_
      obtain ⟨zi1122, eq1121, bd1123⟩ := rd_88000 ok676 kd1120 ((zi684 : Int32).toNatClampNeg)
      refine p_zald (v := zi1122) hx hb hK hw hW kd1120 (by decide) rfl (hW.len kd1120 (n := 8) rfl (by decide)) (vp_b bd690 (by decide) (by decide)) eq1121 dX12_takes_28 ?_
      have jn1130 : ∀ (wl1129 : Int64) (H : Heap) (locs : List Loc) (ls : Array Slot), lv_has ls 6 [(0, .ref qa900), (5, .int 1)] → PW G cy K ln Ls A hp674 H → va_S A s.heap H locs → W p l e ({ frames := 2, cells := 0, slots := 0, locals := 41 } : Room) s m ([.ref qa900, .long wl901] : List Value).toArray below meth c H locs 0 0 Q (F0 m 41 ls [.long wl1129, .long wl1117, .int zi684, .ref qa1114]) := by
        intro wl1129 H locs ls hl hw hS
        refine lv_land hx hb dX12_takes_41 (lv_topl (fun wl1131 _ => ?_))
        refine p_last (x := wl1131) hx hb hK hw hS hW kd1115 (by decide) rfl (hW.len kd1115 (n := 8) rfl (by decide)) (vp_b bd690 (by decide) (by decide)) dX12_takes_42 (fun hp1132 eh1133 H locs hw hS => ?_)
        have ok1134 := wr_87000 ok676 kd1115 eh1133
        refine lv_aload_n hx hb dX12_takes_43 rfl (lv_at hl 0 rfl) ?_
        refine lv_bipush (v := 32) hx hb dX12_takes_44 (by decide) ?_
        have eq1135 : hp1132 qa900 13 = .int zi682 := Eq.trans (up_at eh1133 (Or.inl (kd_ne kd900 kd1115 (by decide)))) eq681
        obtain ⟨qa1137, eq1136, kd1138⟩ := rd_13005 ok1134 kd900
        have eq1139 : hp1132 qa900 11 = .int zi679 := Eq.trans (up_at eh1133 (Or.inl (kd_ne kd900 kd1115 (by decide)))) eq678
        obtain ⟨zi1141, eq1140⟩ := rd_62000 ok1134 kd1138 ((zi679 : Int32).toNatClampNeg)
        refine kq_i hw hS hA (va_runV (As := [.int 32]) (rest := []) ⟨hx, hb, hml, hown, hT⟩ (cX12_is_0 l G cy ev K ln Ls hW _ hp1132 ok1134 qa900 32 kd900) (cwV 1 hT (good_V tb_1623 tb_1620 tb_1622 tb_52 tb_122) rfl rfl rfl (by decide +kernel) ⟨Nat.le_of_ble_eq_true rfl, Nat.le_of_ble_eq_true rfl⟩) (pool_preV (ci := 12) hK hE hS hA hw hW kd900 (by decide) rfl) rfl rfl hl.1 rfl (lv_room (Nat.le_of_ble_eq_true rfl)) dX12_takes_46 ⟨Nat.le_of_ble_eq_true rfl, Nat.le_of_ble_eq_true rfl⟩) (fun zi1146 hp1142 H locs hq1145 hw hS => ?_)
        obtain ⟨ok1143, F1144, bd1147, hc1148, rh1149, rh1150, rh1151⟩ := hq1145
        obtain rfl : hp1132 = hp1142 := (Fr.nil F1144).symm
        have hw : PW G cy K ln Ls A hp1132 H := hw
        have eq1153 : hp1132 qa900 12 = .int zi684 := Eq.trans (up_at eh1133 (Or.inl (kd_ne kd900 kd1115 (by decide)))) eq683
        rcases b01 bd1147 with cn1152 | cn1152
        · skip
          subst cn1152
          have rh1154 := rh1151 rfl
          simp only [ge_of eq1136 eq1139 eq1140, gi_of eq1135, toi bc_32] at rh1154
          refine lv_if_eq (tgt := 58) hx hb dX12_takes_49 (by decide) (fun _ => ?_) (fun c => absurd (d_eq bc_0 bc_0) c)
          refine lv_aload_n hx hb dX12_takes_58 rfl (lv_at hl 0 rfl) ?_
          obtain ⟨qa1156, eq1155, kd1157⟩ := rd_13041 ok1134 kd900
          refine p_get (ci := 12) (v := .ref qa1156) (C := RX12) (T := TX12) (N := 69) hx hb hT iw_X12 hown hK hw hW kd900 (by decide) rfl rfl 41 (by decide) eq1155 (hT _ tb_1415) (fun _ h9 => h9) dX12_takes_59 ?_
          refine lv_aload_n hx hb dX12_takes_62 rfl (lv_at hl 0 rfl) ?_
          refine p_get (ci := 12) (v := .int zi684) (C := RX12) (T := TX12) (N := 69) hx hb hT iw_X12 hown hK hw hW kd900 (by decide) rfl rfl 12 (by decide) eq1153 (hT _ tb_1386) (fun _ h9 => h9) dX12_takes_63 ?_
          refine lv_dup2_11 hx hb dX12_takes_66 rfl rfl ?_
          obtain ⟨wl1159, eq1158⟩ := rd_86000 ok1134 kd1157 ((zi684 : Int32).toNatClampNeg)
          refine p_lald (v := wl1159) hx hb hK hw hW kd1157 (by decide) rfl (hW.len kd1157 (n := 8) rfl (by decide)) (vp_b bd690 (by decide) (by decide)) eq1158 dX12_takes_67 ?_
          refine lv_aload_n hx hb dX12_takes_68 rfl (lv_at hl 0 rfl) ?_
          have eq1160 : hp1132 qa900 42 = .ref qa1114 := Eq.trans (up_at eh1133 (Or.inl (kd_ne kd900 kd1115 (by decide)))) eq1113
          refine p_get (ci := 12) (v := .ref qa1114) (C := RX12) (T := TX12) (N := 69) hx hb hT iw_X12 hown hK hw hW kd900 (by decide) rfl rfl 42 (by decide) eq1160 (hT _ tb_1416) (fun _ h9 => h9) dX12_takes_69 ?_
          refine lv_aload_n hx hb dX12_takes_72 rfl (lv_at hl 0 rfl) ?_
          refine p_get (ci := 12) (v := .int zi684) (C := RX12) (T := TX12) (N := 69) hx hb hT iw_X12 hown hK hw hW kd900 (by decide) rfl rfl 12 (by decide) eq1153 (hT _ tb_1386) (fun _ h9 => h9) dX12_takes_73 ?_
          refine p_lald (v := wl1131) hx hb hK hw hW kd1115 (by decide) rfl (hW.len kd1115 (n := 8) rfl (by decide)) (vp_b bd690 (by decide) (by decide)) (hp_self eh1133) dX12_takes_76 ?_
          refine lv_lor hx hb dX12_takes_77 (lv_topl (fun wl1161 _ => ?_))
          refine p_last (x := wl1161) hx hb hK hw hS hW kd1157 (by decide) rfl (hW.len kd1157 (n := 8) rfl (by decide)) (vp_b bd690 (by decide) (by decide)) dX12_takes_78 (fun hp1162 eh1163 H locs hw hS => ?_)
          have ok1164 := wr_86000 ok1134 kd1157 eh1163
          refine lv_aload_n hx hb dX12_takes_79 rfl (lv_at hl 0 rfl) ?_
          have eq1165 : hp1162 qa900 42 = .ref qa1114 := Eq.trans (up_at eh1163 (Or.inl (kd_ne kd900 kd1157 (by decide)))) eq1160
          refine p_get (ci := 12) (v := .ref qa1114) (C := RX12) (T := TX12) (N := 69) hx hb hT iw_X12 hown hK hw hW kd900 (by decide) rfl rfl 42 (by decide) eq1165 (hT _ tb_1416) (fun _ h9 => h9) dX12_takes_80 ?_
          refine lv_aload_n hx hb dX12_takes_83 rfl (lv_at hl 0 rfl) ?_
          have eq1166 : hp1162 qa900 12 = .int zi684 := Eq.trans (up_at eh1163 (Or.inl (kd_ne kd900 kd1157 (by decide)))) eq1153
          refine p_get (ci := 12) (v := .int zi684) (C := RX12) (T := TX12) (N := 69) hx hb hT iw_X12 hown hK hw hW kd900 (by decide) rfl rfl 12 (by decide) eq1166 (hT _ tb_1386) (fun _ h9 => h9) dX12_takes_84 ?_
          refine lv_ldc2 (v := (-1)) hx hb hown (hT _ tb_1680) dX12_takes_87 ?_
          refine p_last (x := (-1)) hx hb hK hw hS hW kd1115 (by decide) rfl (hW.len kd1115 (n := 8) rfl (by decide)) (vp_b bd690 (by decide) (by decide)) dX12_takes_90 (fun hp1167 eh1168 H locs hw hS => ?_)
          have ok1169 := wr_87000 ok1164 kd1115 eh1168
          refine lv_aload_n hx hb dX12_takes_91 rfl (lv_at hl 0 rfl) ?_
          refine lv_bipush (v := 31) hx hb dX12_takes_92 (by decide) ?_
          have eq1170 : hp1167 qa900 13 = .int zi682 := Eq.trans (up_at eh1168 (Or.inl (kd_ne kd900 kd1115 (by decide)))) (Eq.trans (up_at eh1163 (Or.inl (kd_ne kd900 kd1157 (by decide)))) eq1135)
          have eq1171 : hp1167 qa900 5 = .ref qa1137 := Eq.trans (up_at eh1168 (Or.inl (kd_ne kd900 kd1115 (by decide)))) (Eq.trans (up_at eh1163 (Or.inl (kd_ne kd900 kd1157 (by decide)))) eq1136)
          have eq1172 : hp1167 qa900 11 = .int zi679 := Eq.trans (up_at eh1168 (Or.inl (kd_ne kd900 kd1115 (by decide)))) (Eq.trans (up_at eh1163 (Or.inl (kd_ne kd900 kd1157 (by decide)))) eq1139)
          have eq1173 : hp1167 qa1137 (zi679 : Int32).toNatClampNeg = .int zi1141 := Eq.trans (up_at eh1168 (Or.inl (kd_ne kd1138 kd1115 (by decide)))) (Eq.trans (up_at eh1163 (Or.inl (kd_ne kd1138 kd1157 (by decide)))) eq1140)
          refine kq_i hw hS hA (va_runV (As := [.int 31]) (rest := []) ⟨hx, hb, hml, hown, hT⟩ (cX12_is_0 l G cy ev K ln Ls hW _ hp1167 ok1169 qa900 31 kd900) (cwV 1 hT (good_V tb_1623 tb_1620 tb_1622 tb_52 tb_122) rfl rfl rfl (by decide +kernel) ⟨Nat.le_of_ble_eq_true rfl, Nat.le_of_ble_eq_true rfl⟩) (pool_preV (ci := 12) hK hE hS hA hw hW kd900 (by decide) rfl) rfl rfl hl.1 rfl (lv_room (Nat.le_of_ble_eq_true rfl)) dX12_takes_94 ⟨Nat.le_of_ble_eq_true rfl, Nat.le_of_ble_eq_true rfl⟩) (fun zi1178 hp1174 H locs hq1177 hw hS => ?_)
          obtain ⟨ok1175, F1176, bd1179, hc1180, rh1181, rh1182, rh1183⟩ := hq1177
          obtain rfl : hp1167 = hp1174 := (Fr.nil F1176).symm
          have hw : PW G cy K ln Ls A hp1167 H := hw
          have eq1185 : hp1167 qa900 12 = .int zi684 := Eq.trans (up_at eh1168 (Or.inl (kd_ne kd900 kd1115 (by decide)))) eq1166
          rcases b01 bd1179 with cn1184 | cn1184
          · skip
            subst cn1184
            have rh1186 := rh1183 rfl
            simp only [ge_of eq1171 eq1172 eq1173, gi_of eq1170, toi bc_31] at rh1186
            refine lv_if_eq (tgt := 106) hx hb dX12_takes_97 (by decide) (fun _ => ?_) (fun c => absurd (d_eq bc_0 bc_0) c)
            refine lv_aload_n hx hb dX12_takes_106 rfl (lv_at hl 0 rfl) ?_
            refine p_get (ci := 12) (v := .int zi684) (C := RX12) (T := TX12) (N := 69) hx hb hT iw_X12 hown hK hw hW kd900 (by decide) rfl rfl 12 (by decide) eq1185 (hT _ tb_1386) (fun _ h9 => h9) dX12_takes_107 ?_
            refine lv_if_ne (tgt := 115) hx hb dX12_takes_110 (by decide) (fun cn1187 => ?_) (fun cn1187 => ?_)
            · skip
              have tf1188 : (zi684 : Int32).toInt ≠ (0 : Int32).toInt := fun e => cn1187 (Int32.toInt_inj.mp e)
              have := toi bc_0
              have bd1189 : (1 : Int) ≤ zi684.toInt ∧ zi684.toInt ≤ 7 := r_ne_lo cn1187 bd690 (toi bc_0) (by decide) (by decide)
              refine lv_aload_n hx hb dX12_takes_115 rfl (lv_at hl 0 rfl) ?_
              refine lv_bipush (v := 7) hx hb dX12_takes_116 (by decide) ?_
              refine kq_i hw hS hA (va_runV (As := [.int 7]) (rest := []) ⟨hx, hb, hml, hown, hT⟩ (cX12_is_0 l G cy ev K ln Ls hW _ hp1167 ok1169 qa900 7 kd900) (cwV 1 hT (good_V tb_1623 tb_1620 tb_1622 tb_52 tb_122) rfl rfl rfl (by decide +kernel) ⟨Nat.le_of_ble_eq_true rfl, Nat.le_of_ble_eq_true rfl⟩) (pool_preV (ci := 12) hK hE hS hA hw hW kd900 (by decide) rfl) rfl rfl hl.1 rfl (lv_room (Nat.le_of_ble_eq_true rfl)) dX12_takes_118 ⟨Nat.le_of_ble_eq_true rfl, Nat.le_of_ble_eq_true rfl⟩) (fun zi1194 hp1190 H locs hq1193 hw hS => ?_)
              obtain ⟨ok1191, F1192, bd1195, hc1196, rh1197, rh1198, rh1199⟩ := hq1193
              obtain rfl : hp1167 = hp1190 := (Fr.nil F1192).symm
              have hw : PW G cy K ln Ls A hp1167 H := hw
              have jn1227 : ∀ (hp1218 : Nat → Nat → Value) (zi1222 : Int32) (H : Heap) (locs : List Loc) (ls : Array Slot), Ok K hp1218 → Fr [13013, 13014] K hp1167 hp1218 → ((0 : Int) ≤ zi1222.toInt ∧ zi1222.toInt ≤ 2) → hp1218 qa900 13 = .int zi1222 → (4*zi679.toInt + zi1222.toInt ≥ 4*zi679.toInt + zi682.toInt) → (zi1222.toInt ≥ zi682.toInt) → (zi684.toInt ≤ 6 + zi1222.toInt) → lv_has ls 6 [(0, .ref qa900), (5, .int 1)] → PW G cy K ln Ls A hp1218 H → va_S A s.heap H locs → W p l e ({ frames := 2, cells := 0, slots := 0, locals := 41 } : Room) s m ([.ref qa900, .long wl901] : List Value).toArray below meth c H locs 0 0 Q (F0 m 129 ls []) := by
                intro hp1218 zi1222 H locs ls ok1220 F1219 bd1226 eq1221 rq1223 rq1224 rq1225 hl hw hS
                refine lv_aload_n hx hb dX12_takes_129 rfl (lv_at hl 0 rfl) ?_
                refine p_get (ci := 12) (v := .int zi1222) (C := RX12) (T := TX12) (N := 69) hx hb hT iw_X12 hown hK hw hW kd900 (by decide) rfl rfl 13 (by decide) eq1221 (hT _ tb_1387) (fun _ h9 => h9) dX12_takes_130 ?_
                have eq1229 : hp1218 qa900 11 = .int zi679 := Eq.trans (Fr.at (cq := 13011) F1219 kd900 (cd_o (by decide)) (by decide)) eq1172
                have eq1230 : hp1218 qa900 12 = .int zi684 := Eq.trans (Fr.at (cq := 13012) F1219 kd900 (cd_o (by decide)) (by decide)) eq1185
                refine lv_if_le (tgt := 138) hx hb dX12_takes_133 (by decide) (fun cn1228 => ?_) (fun cn1228 => ?_)
                · skip
                  have bd1231 : (0 : Int) ≤ zi1222.toInt ∧ zi1222.toInt ≤ 0 := r_le_x cn1228 bd1226 bc_0 (by decide) (by decide)
                  refine lv_aload_n hx hb dX12_takes_138 rfl (lv_at hl 0 rfl) ?_
                  refine kq_v hw hS hA (va_runV (As := []) (rest := []) ⟨hx, hb, hml, hown, hT⟩ (cX12_goesOn_0 l G cy ev K ln Ls hW _ hp1218 ok1220 qa900 kd900) (cwV 0 hT (good_V tb_1639 tb_1636 tb_1638 tb_56 tb_122) rfl rfl rfl (by decide +kernel) ⟨Nat.le_of_ble_eq_true rfl, Nat.le_of_ble_eq_true rfl⟩) (pool_preV (ci := 12) hK hE hS hA hw hW kd900 (by decide) rfl) rfl rfl hl.1 rfl (lv_room (Nat.le_of_ble_eq_true rfl)) dX12_takes_139 ⟨Nat.le_of_ble_eq_true rfl, Nat.le_of_ble_eq_true rfl⟩) (fun hp1232 H locs hq1235 hw hS => ?_)
                  obtain ⟨ok1233, F1234, ⟨zi1237, eq1238, bd1239⟩, rh1240, rh1241, rh1242⟩ := hq1235
                  have hw : PW G cy K ln Ls A hp1232 H := hw
                  obtain ⟨zi1244, eq1243, bd1245⟩ := rd_13013 ok1233 kd900
                  simp only [gi_of eq1221, gi_of eq1229, gi_of eq1238, gi_of eq1243] at rh1240
                  simp only [gi_of eq1221, gi_of eq1243] at rh1241
                  simp only [gi_of eq1229, gi_of eq1238, gi_of eq1243] at rh1242
                  refine lv_aload_n hx hb dX12_takes_142 rfl (lv_at hl 0 rfl) ?_
                  have eq1246 : hp1232 qa900 41 = .ref qa1156 := Eq.trans (Fr.at (cq := 13041) F1234 kd900 (cd_o (by decide)) (by decide)) (Eq.trans (Fr.at (cq := 13041) F1219 kd900 (cd_o (by decide)) (by decide)) (Eq.trans (up_at eh1168 (Or.inl (kd_ne kd900 kd1115 (by decide)))) (Eq.trans (up_at eh1163 (Or.inl (kd_ne kd900 kd1157 (by decide)))) eq1155)))
                  refine p_get (ci := 12) (v := .ref qa1156) (C := RX12) (T := TX12) (N := 69) hx hb hT iw_X12 hown hK hw hW kd900 (by decide) rfl rfl 41 (by decide) eq1246 (hT _ tb_1415) (fun _ h9 => h9) dX12_takes_143 ?_
                  refine lv_aload_n hx hb dX12_takes_146 rfl (lv_at hl 0 rfl) ?_
                  have eq1247 : hp1232 qa900 12 = .int zi684 := Eq.trans (Fr.at (cq := 13012) F1234 kd900 (cd_o (by decide)) (by decide)) eq1230
                  refine p_get (ci := 12) (v := .int zi684) (C := RX12) (T := TX12) (N := 69) hx hb hT iw_X12 hown hK hw hW kd900 (by decide) rfl rfl 12 (by decide) eq1247 (hT _ tb_1386) (fun _ h9 => h9) dX12_takes_147 ?_
                  have eq1248 : hp1232 qa1156 (zi684 : Int32).toNatClampNeg = .long wl1161 := Eq.trans (Fr.at (cq := 86000) F1234 kd1157 (cd_a (by decide)) (by decide)) (Eq.trans (Fr.at (cq := 86000) F1219 kd1157 (cd_a (by decide)) (by decide)) (Eq.trans (up_at eh1168 (Or.inl (kd_ne kd1157 kd1115 (by decide)))) (hp_self eh1163)))
                  refine p_lald (v := wl1161) hx hb hK hw hW kd1157 (by decide) rfl (hW.len kd1157 (n := 8) rfl (by decide)) (vp_b bd1189 (by decide) (by decide)) eq1248 dX12_takes_150 ?_
                  refine lv_lstore_n (lv' := [(3, .long wl1161), (0, .ref qa900), (5, .int 1)]) hx hb dX12_takes_151 rfl hl (by decide) rfl (fun ls hl => ?_)
                  refine lv_aload_n hx hb dX12_takes_152 rfl (lv_at hl 1 rfl) ?_
                  refine lv_dup hx hb dX12_takes_153 rfl ?_
                  refine p_get (ci := 12) (v := .int zi684) (C := RX12) (T := TX12) (N := 69) hx hb hT iw_X12 hown hK hw hW kd900 (by decide) rfl rfl 12 (by decide) eq1247 (hT _ tb_1386) (fun _ h9 => h9) dX12_takes_154 ?_
                  refine lv_iconst (v := 1) hx hb dX12_takes_157 (by decide) ?_
                  refine lv_isub hx hb dX12_takes_158 (lv_topi (fun zi1249 ea1250 => ?_))
                  have bd1251 : (0 : Int) ≤ zi1249.toInt ∧ zi1249.toInt ≤ 6 := b_isub ea1250 bd1189 bc_1 (by decide) (by decide) (by decide) (by decide)
                  have qe1252 : zi1249.toInt = (zi684 : Int32).toInt - (1 : Int32).toInt := e_isub ea1250 bd1189 bc_1 (by decide) (by decide)
                  have qe1253 : zi1249.toInt = zi684.toInt - 1 := by have ha : (1 : Int32).toInt = 1 := (by decide); rw [ha] at qe1252; exact qe1252
                  refine p_put (ci := 12) (v := .int zi1249) (ty := .int) (C := RX12) (T := TX12) (N := 69) hx hb hT iw_X12 tyX12 tyX12_ok nmX12 hown hK hw hS hW kd900 (by decide) rfl rfl 12 (by decide) (hT _ tb_1386) (fun _ h9 => h9) rfl (by decide +kernel) rfl rfl dX12_takes_159 (fun hp1254 eh1255 H locs hw hS => ?_)
                  have ok1256 := wr_13012 bd1251 (by decide) (by decide) ok1233 kd900 eh1255
                  refine lv_goto (tgt := 5) hx hb dX12_takes_162 (by decide) ?_
                  have eq1257 : hp1254 qa900 11 = .int zi1237 := Eq.trans (up_at eh1255 (Or.inr (by decide))) eq1238
                  have eq1258 : hp1254 qa900 13 = .int zi1244 := Eq.trans (up_at eh1255 (Or.inr (by decide))) eq1243
                  exact ih1110 hp1254 wl1161 zi1237 zi1244 zi1249 _ _ ls (by have := toi bc_1; have := hm1112; omega) ok1256 (Fr.put (cq := 13012) (Fr.tr (Fr.tr (Fr.put (cq := 87000) (Fr.put (cq := 86000) (Fr.put (cq := 87000) (Fr.tr (Fr.rf) F675 (by decide)) eh1133 kd1115 (cd_a (by decide)) (by decide)) eh1163 kd1157 (cd_a (by decide)) (by decide)) eh1168 kd1115 (cd_a (by decide)) (by decide)) F1219 (by decide)) F1234 (by decide)) eh1255 kd900 (cd_o (by decide)) (by decide)) (b_wid2 bd1239 (by decide) (by decide)) eq1257 (b_wid2 bd1245 (by decide) (by decide)) eq1258 (b_wid2 bd1251 (by decide) (by decide)) (hp_self eh1255) (by have := toi bc_1; omega) (by have := toi bc_1; omega) (by have := toi bc_1; omega) (lv_sub hl [1, 0, 2] rfl) hw hS
                · skip
                  have bd1259 : (1 : Int) ≤ zi1222.toInt ∧ zi1222.toInt ≤ 2 := r_lt_y (Int32.not_le.mp cn1228) bc_0 bd1226 (by decide) (by decide)
                  refine lv_iconst (v := 0) hx hb dX12_takes_136 (by decide) ?_
                  rw [hQ]
                  exact kz_i hx hb hr hlocks hS (nz_n bc_0 (by decide) (by decide)) hp1218 hw ⟨ok1220, (Fr.tr (Fr.put (cq := 87000) (Fr.put (cq := 86000) (Fr.put (cq := 87000) (Fr.tr (Fr.rf) F675 (by decide)) eh1133 kd1115 (cd_a (by decide)) (by decide)) eh1163 kd1157 (cd_a (by decide)) (by decide)) eh1168 kd1115 (cd_a (by decide)) (by decide)) F1219 (by decide)), (b_wid2 bc_0 (by decide) (by decide)), (fun h => absurd h (by decide)), (by simp only [gi_of eq1, gi_of eq1221, gi_of eq1229, gi_of eq7]; omega), (by simp only [gi_of eq1, gi_of eq1221]; omega), (by simp only [gi_of eq1221, gi_of eq1230]; omega), (fun _ => by simp only [gi_of eq1221, gi_of eq1230]; omega)⟩ (Nat.le_of_ble_eq_true rfl) (Nat.le_of_ble_eq_true rfl) dX12_takes_137
              rcases b01 bd1195 with cn1200 | cn1200
              · skip
                subst cn1200
                have rh1260 := rh1199 rfl
                simp only [ge_of eq1171 eq1172 eq1173, gi_of eq1170, toi bc_7] at rh1260
                refine lv_if_ne (tgt := 129) hx hb dX12_takes_121 (by decide) (fun c => absurd (d_eq bc_0 bc_0) c) (fun _ => ?_)
                refine lv_aload_n hx hb dX12_takes_124 rfl (lv_at hl 0 rfl) ?_
                refine lv_iconst (v := 1) hx hb dX12_takes_125 (by decide) ?_
                refine kq_v hw hS hA (va_runV (As := [.int 1]) (rest := []) ⟨hx, hb, hml, hown, hT⟩ (cX12_fail_0 l G cy ev K ln Ls hW _ hp1167 ok1169 qa900 1 kd900 (b_wid2 bc_1 (by decide) (by decide))) (cwV 1 hT (good_V tb_1635 tb_1632 tb_1634 tb_55 tb_122) rfl rfl rfl (by decide +kernel) ⟨Nat.le_of_ble_eq_true rfl, Nat.le_of_ble_eq_true rfl⟩) (pool_preV (ci := 12) hK hE hS hA hw hW kd900 (by decide) rfl) rfl rfl hl.1 rfl (lv_room (Nat.le_of_ble_eq_true rfl)) dX12_takes_126 ⟨Nat.le_of_ble_eq_true rfl, Nat.le_of_ble_eq_true rfl⟩) (fun hp1261 H locs hq1264 hw hS => ?_)
                obtain ⟨ok1262, F1263, ⟨zi1266, eq1267, bd1268⟩, rh1269⟩ := hq1264
                have hw : PW G cy K ln Ls A hp1261 H := hw
                simp only [gi_of eq1170, gi_of eq1267] at rh1269
                have eq1270 : hp1261 qa900 11 = .int zi679 := Eq.trans (Fr.at (cq := 13011) F1263 kd900 (cd_o (by decide)) (by decide)) eq1172
                have eq1271 : hp1261 qa900 12 = .int zi684 := Eq.trans (Fr.at (cq := 13012) F1263 kd900 (cd_o (by decide)) (by decide)) eq1185
                exact jn1227 hp1261 zi1266 _ _ ls ok1262 (Fr.tr (Fr.rf) F1263 (by decide)) (b_wid2 bd1268 (by decide) (by decide)) eq1267 (by have := toi bc_1; omega) (by have := toi bc_1; omega) (by have := toi bc_1; omega) (lv_sub hl [0, 1] rfl) hw hS
              · skip
                subst cn1200
                obtain ⟨zi1272, eq1273, bd1274⟩ := hc1196 rfl
                have hx1275 : zi682 = zi1272 := Value.int.inj (Eq.trans (Eq.symm eq1170) eq1273)
                subst hx1275
                have bd1276 : (0 : Int) ≤ zi682.toInt ∧ zi682.toInt ≤ 0 := b_meet bd689 bd1274 (by decide) (by decide)
                have rh1277 := rh1197 rfl
                simp only [ge_of eq1171 eq1172 eq1173, toi bc_7] at rh1277
                have rh1278 := rh1198 rfl
                simp only [gi_of eq1170] at rh1278
                refine lv_if_ne (tgt := 129) hx hb dX12_takes_121 (by decide) (fun _ => ?_) (fun c => absurd c (d_ne bc_1 bc_0 (by decide)))
                exact jn1227 hp1167 zi682 _ _ ls ok1169 (Fr.rf) (b_wid2 bd1276 (by decide) (by decide)) eq1170 (by have := toi bc_1; omega) (by have := toi bc_1; omega) (by have := toi bc_1; omega) (lv_sub hl [0, 1] rfl) hw hS
            · skip
              have bd1279 : (0 : Int) ≤ zi684.toInt ∧ zi684.toInt ≤ 0 := r_eq_x cn1187 bd690 bc_0 (by decide) (by decide)
              refine lv_iconst (v := 0) hx hb dX12_takes_113 (by decide) ?_
              rw [hQ]
              exact kz_i hx hb hr hlocks hS (nz_n bc_0 (by decide) (by decide)) hp1167 hw ⟨ok1169, (Fr.put (cq := 87000) (Fr.put (cq := 86000) (Fr.put (cq := 87000) (Fr.tr (Fr.rf) F675 (by decide)) eh1133 kd1115 (cd_a (by decide)) (by decide)) eh1163 kd1157 (cd_a (by decide)) (by decide)) eh1168 kd1115 (cd_a (by decide)) (by decide)), (b_wid2 bc_0 (by decide) (by decide)), (fun h => absurd h (by decide)), (by simp only [gi_of eq1, gi_of eq1170, gi_of eq1172, gi_of eq7]; omega), (by simp only [gi_of eq1, gi_of eq1170]; omega), (by simp only [gi_of eq1170, gi_of eq1185]; omega), (fun _ => by simp only [gi_of eq1170, gi_of eq1185]; omega)⟩ (Nat.le_of_ble_eq_true rfl) (Nat.le_of_ble_eq_true rfl) dX12_takes_114
          · skip
            subst cn1184
            obtain ⟨zi1280, eq1281, bd1282⟩ := hc1180 rfl
            have hx1283 : zi682 = zi1280 := Value.int.inj (Eq.trans (Eq.symm eq1170) eq1281)
            subst hx1283
            have bd1284 : (0 : Int) ≤ zi682.toInt ∧ zi682.toInt ≤ 0 := b_meet bd689 bd1282 (by decide) (by decide)
            have rh1285 := rh1181 rfl
            simp only [ge_of eq1171 eq1172 eq1173, toi bc_31] at rh1285
            have rh1286 := rh1182 rfl
            simp only [gi_of eq1170] at rh1286
            refine lv_if_eq (tgt := 106) hx hb dX12_takes_97 (by decide) (fun c => absurd c (d_ne bc_1 bc_0 (by decide))) (fun _ => ?_)
            refine lv_aload_n hx hb dX12_takes_100 rfl (lv_at hl 0 rfl) ?_
            refine kq_v hw hS hA (va_runV (As := []) (rest := []) ⟨hx, hb, hml, hown, hT⟩ (cX12_goesOn_0 l G cy ev K ln Ls hW _ hp1167 ok1169 qa900 kd900) (cwV 0 hT (good_V tb_1639 tb_1636 tb_1638 tb_56 tb_122) rfl rfl rfl (by decide +kernel) ⟨Nat.le_of_ble_eq_true rfl, Nat.le_of_ble_eq_true rfl⟩) (pool_preV (ci := 12) hK hE hS hA hw hW kd900 (by decide) rfl) rfl rfl hl.1 rfl (lv_room (Nat.le_of_ble_eq_true rfl)) dX12_takes_101 ⟨Nat.le_of_ble_eq_true rfl, Nat.le_of_ble_eq_true rfl⟩) (fun hp1287 H locs hq1290 hw hS => ?_)
            obtain ⟨ok1288, F1289, ⟨zi1292, eq1293, bd1294⟩, rh1295, rh1296, rh1297⟩ := hq1290
            have hw : PW G cy K ln Ls A hp1287 H := hw
            obtain ⟨zi1299, eq1298, bd1300⟩ := rd_13013 ok1288 kd900
            simp only [gi_of eq1170, gi_of eq1172, gi_of eq1293, gi_of eq1298] at rh1295
            simp only [gi_of eq1170, gi_of eq1298] at rh1296
            simp only [gi_of eq1172, gi_of eq1293, gi_of eq1298] at rh1297
            refine lv_iconst (v := 1) hx hb dX12_takes_104 (by decide) ?_
            have eq1301 : hp1287 qa900 12 = .int zi684 := Eq.trans (Fr.at (cq := 13012) F1289 kd900 (cd_o (by decide)) (by decide)) eq1185
            rw [hQ]
            exact kz_i hx hb hr hlocks hS (nz_n bc_1 (by decide) (by decide)) hp1287 hw ⟨ok1288, (Fr.tr (Fr.put (cq := 87000) (Fr.put (cq := 86000) (Fr.put (cq := 87000) (Fr.tr (Fr.rf) F675 (by decide)) eh1133 kd1115 (cd_a (by decide)) (by decide)) eh1163 kd1157 (cd_a (by decide)) (by decide)) eh1168 kd1115 (cd_a (by decide)) (by decide)) F1289 (by decide)), (b_wid2 bc_1 (by decide) (by decide)), (fun _ => ⟨_, eq1293, b_wid2 bd1294 (by decide) (by decide)⟩), (by simp only [gi_of eq1, gi_of eq1293, gi_of eq1298, gi_of eq7]; omega), (by simp only [gi_of eq1, gi_of eq1298]; omega), (by simp only [gi_of eq1298, gi_of eq1301]; omega), (fun h => absurd h (by decide))⟩ (Nat.le_of_ble_eq_true rfl) (Nat.le_of_ble_eq_true rfl) dX12_takes_105
        · skip
          subst cn1152
          obtain ⟨zi1302, eq1303, bd1304⟩ := hc1148 rfl
          have hx1305 : zi682 = zi1302 := Value.int.inj (Eq.trans (Eq.symm eq1135) eq1303)
          subst hx1305
          have bd1306 : (0 : Int) ≤ zi682.toInt ∧ zi682.toInt ≤ 0 := b_meet bd689 bd1304 (by decide) (by decide)
          have rh1307 := rh1149 rfl
          simp only [ge_of eq1136 eq1139 eq1140, toi bc_32] at rh1307
          have rh1308 := rh1150 rfl
          simp only [gi_of eq1135] at rh1308
          refine lv_if_eq (tgt := 58) hx hb dX12_takes_49 (by decide) (fun c => absurd c (d_ne bc_1 bc_0 (by decide))) (fun _ => ?_)
          refine lv_aload_n hx hb dX12_takes_52 rfl (lv_at hl 0 rfl) ?_
          refine kq_v hw hS hA (va_runV (As := []) (rest := []) ⟨hx, hb, hml, hown, hT⟩ (cX12_goesOn_0 l G cy ev K ln Ls hW _ hp1132 ok1134 qa900 kd900) (cwV 0 hT (good_V tb_1639 tb_1636 tb_1638 tb_56 tb_122) rfl rfl rfl (by decide +kernel) ⟨Nat.le_of_ble_eq_true rfl, Nat.le_of_ble_eq_true rfl⟩) (pool_preV (ci := 12) hK hE hS hA hw hW kd900 (by decide) rfl) rfl rfl hl.1 rfl (lv_room (Nat.le_of_ble_eq_true rfl)) dX12_takes_53 ⟨Nat.le_of_ble_eq_true rfl, Nat.le_of_ble_eq_true rfl⟩) (fun hp1309 H locs hq1312 hw hS => ?_)
          obtain ⟨ok1310, F1311, ⟨zi1314, eq1315, bd1316⟩, rh1317, rh1318, rh1319⟩ := hq1312
          have hw : PW G cy K ln Ls A hp1309 H := hw
          obtain ⟨zi1321, eq1320, bd1322⟩ := rd_13013 ok1310 kd900
          simp only [gi_of eq1135, gi_of eq1139, gi_of eq1315, gi_of eq1320] at rh1317
          simp only [gi_of eq1135, gi_of eq1320] at rh1318
          simp only [gi_of eq1139, gi_of eq1315, gi_of eq1320] at rh1319
          refine lv_iconst (v := 1) hx hb dX12_takes_56 (by decide) ?_
          have eq1323 : hp1309 qa900 12 = .int zi684 := Eq.trans (Fr.at (cq := 13012) F1311 kd900 (cd_o (by decide)) (by decide)) eq1153
          rw [hQ]
          exact kz_i hx hb hr hlocks hS (nz_n bc_1 (by decide) (by decide)) hp1309 hw ⟨ok1310, (Fr.tr (Fr.put (cq := 87000) (Fr.tr (Fr.rf) F675 (by decide)) eh1133 kd1115 (cd_a (by decide)) (by decide)) F1311 (by decide)), (b_wid2 bc_1 (by decide) (by decide)), (fun _ => ⟨_, eq1315, b_wid2 bd1316 (by decide) (by decide)⟩), (by simp only [gi_of eq1, gi_of eq1315, gi_of eq1320, gi_of eq7]; omega), (by simp only [gi_of eq1, gi_of eq1320]; omega), (by simp only [gi_of eq1320, gi_of eq1323]; omega), (fun h => absurd h (by decide))⟩ (Nat.le_of_ble_eq_true rfl) (Nat.le_of_ble_eq_true rfl) dX12_takes_57
      refine lv_if_eq (tgt := 40) hx hb dX12_takes_29 (by decide) (fun cn1124 => ?_) (fun cn1124 => ?_)
      · skip
        have bd1324 : (0 : Int) ≤ zi1122.toInt ∧ zi1122.toInt ≤ 0 := r_eq_x cn1124 bd1123 bc_0 (by decide) (by decide)
        refine lv_lload_n hx hb dX12_takes_40 rfl (lv_at hl 1 rfl) ?_
        exact jn1130 wl673 _ _ ls (lv_sub hl [0, 2] rfl) hw hS
      · skip
        have tf1325 : (zi1122 : Int32).toInt ≠ (0 : Int32).toInt := fun e => cn1124 (Int32.toInt_inj.mp e)
        have := toi bc_0
        have bd1326 : (1 : Int) ≤ zi1122.toInt ∧ zi1122.toInt ≤ 1 := r_ne_lo cn1124 bd1123 (toi bc_0) (by decide) (by decide)
        refine lv_lload_n hx hb dX12_takes_32 rfl (lv_at hl 1 rfl) ?_
        refine lv_ldc2 (v := (-1)) hx hb hown (hT _ tb_1680) dX12_takes_33 ?_
        refine lv_lxor hx hb dX12_takes_36 (lv_topl (fun wl1327 _ => ?_))
        refine lv_goto (tgt := 41) hx hb dX12_takes_37 (by decide) ?_
        exact jn1130 wl1327 _ _ ls (lv_sub hl [0, 2] rfl) hw hS
  exact lp1111 _ hp0 wl901 zi8 zi2 zi5 _ _ ls (lp_in _) ok0 (Fr.rf) (b_wid2 bd9 (by decide) (by decide)) eq7 (b_wid2 bd3 (by decide) (by decide)) eq1 (b_wid2 bd6 (by decide) (by decide)) eq4 (by have := toi bc_1; omega) (by have := toi bc_1; omega) (by have := toi bc_1; omega) (lv_sub hl [2, 1, 0] rfl) hw hS

set_option maxRecDepth 100000 in
set_option maxHeartbeats 4000000 in
theorem cX12_condition_0 (l : Launch) (G : va_G) (cy : Nat → ClassId) (ev : Ew) (K ln : Nat → Nat) (Ls : List Nat) (hW : SW K ln Ls) (sz : Nat) (hp0 : Nat → Nat → Value) (ok0 : Ok K hp0) (qa900 : Nat) (kd900 : K qa900 = 13) (rp0 : (gi hp0 qa900 12) ≤ 7*(gi hp0 qa900 13)) : Met l yX12_condition (WS yX12_condition cX12_condition 3 (some .long)) { frames := 4, cells := 0, slots := 0, locals := 85 } (PB2 [.ref qa900] sz G cy ev (va_pl Ls (cellOf cy K ln hp0))) (QBl (S := (Nat → Nat → Value)) (fun (r : Int64) (u : (Nat → Nat → Value)) => Ok K u ∧ Fr [13011, 13012, 13013, 13014, 13015, 13016, 86000, 87000, 88000] K hp0 u ∧ (4*(gi u qa900 11) + (gi u qa900 13) ≥ 4*(gi hp0 qa900 11) + (gi hp0 qa900 13)) ∧ ((gi u qa900 13) ≥ (gi hp0 qa900 13)) ∧ ((gi u qa900 12) ≤ 7*(gi u qa900 13))) G (fun u => va_pl Ls (cellOf cy K ln u)) (va_A (va_pl Ls (cellOf cy K ln hp0)) sz)) 0 0 (va_A (va_pl Ls (cellOf cy K ln hp0)) sz) := by
  refine met_of2 (y := yX12_condition) (L := 3) (av := [.ref qa900]) (Qc := fun A => QBl (S := (Nat → Nat → Value)) (fun (r : Int64) (u : (Nat → Nat → Value)) => Ok K u ∧ Fr [13011, 13012, 13013, 13014, 13015, 13016, 86000, 87000, 88000] K hp0 u ∧ (4*(gi u qa900 11) + (gi u qa900 13) ≥ 4*(gi hp0 qa900 11) + (gi hp0 qa900 13)) ∧ ((gi u qa900 13) ≥ (gi hp0 qa900 13)) ∧ ((gi u qa900 12) ≤ 7*(gi u qa900 13))) G (fun u => va_pl Ls (cellOf cy K ln u)) A) (plainFor_of_name (by decide)) (Nat.le_of_ble_eq_true rfl) ?_
  intro p e s m below meth c hsz hx hb hr hml hown hT hlocks hin hK A hA hE hw hS ls hl
  have hw : PW G cy K ln Ls A hp0 s.heap := hw
  have hown : s.vm.findClass "LieClockModel" = some m.cls := hown
  have hl : lv_has ls 3 [(0, .ref qa900)] := hl
  obtain ⟨Q, hQ⟩ : ∃ Q : State → Prop, Q = MQ below (QBl (S := (Nat → Nat → Value)) (fun (r : Int64) (u : (Nat → Nat → Value)) => Ok K u ∧ Fr [13011, 13012, 13013, 13014, 13015, 13016, 86000, 87000, 88000] K hp0 u ∧ (4*(gi u qa900 11) + (gi u qa900 13) ≥ 4*(gi hp0 qa900 11) + (gi hp0 qa900 13)) ∧ ((gi u qa900 13) ≥ (gi hp0 qa900 13)) ∧ ((gi u qa900 12) ≤ 7*(gi u qa900 13))) G (fun u => va_pl Ls (cellOf cy K ln u)) A) ([.ref qa900] : List Value).toArray s 0 0 A := ⟨_, rfl⟩
  rw [← hQ]
  obtain ⟨zi2, eq1, bd3⟩ := rd_13013 ok0 kd900
  obtain ⟨zi5, eq4, bd6⟩ := rd_13012 ok0 kd900
  obtain ⟨zi8, eq7, bd9⟩ := rd_13011 ok0 kd900
  have rq0 := rp0
  simp only [gi_of eq1, gi_of eq4] at rq0
  refine lv_aload_n hx hb dX12_condition_0 rfl (lv_at hl 0 rfl) ?_
  refine p_get (ci := 12) (v := .int zi2) (C := RX12) (T := TX12) (N := 69) hx hb hT iw_X12 hown hK hw hW kd900 (by decide) rfl rfl 13 (by decide) eq1 (hT _ tb_1387) (fun _ h9 => h9) dX12_condition_1 ?_
  refine lv_if_le (tgt := 9) hx hb dX12_condition_4 (by decide) (fun cn10 => ?_) (fun cn10 => ?_)
  · skip
    have bd11 : (0 : Int) ≤ zi2.toInt ∧ zi2.toInt ≤ 0 := r_le_x cn10 bd3 bc_0 (by decide) (by decide)
    refine lv_aload_n hx hb dX12_condition_9 rfl (lv_at hl 0 rfl) ?_
    refine kq_v hw hS hA (va_runV (As := []) (rest := []) ⟨hx, hb, hml, hown, hT⟩ (cX12_opensCondition_0 l G cy ev K ln Ls hW _ hp0 ok0 qa900 kd900) (cwV 0 hT (good_V tb_1679 tb_1676 tb_1678 tb_66 tb_122) rfl rfl rfl (by decide +kernel) ⟨Nat.le_of_ble_eq_true rfl, Nat.le_of_ble_eq_true rfl⟩) (pool_preV (ci := 12) hK hE hS hA hw hW kd900 (by decide) rfl) rfl rfl hl.1 rfl (lv_room (Nat.le_of_ble_eq_true rfl)) dX12_condition_10 ⟨Nat.le_of_ble_eq_true rfl, Nat.le_of_ble_eq_true rfl⟩) (fun hp12 H locs hq15 hw hS => ?_)
    obtain ⟨ok13, F14⟩ := hq15
    have hw : PW G cy K ln Ls A hp12 H := hw
    refine lv_iconst (v := 1) hx hb dX12_condition_13 (by decide) ?_
    refine lv_istore_n (lv' := [(1, .int 1), (0, .ref qa900)]) hx hb dX12_condition_14 rfl hl (by decide) rfl (fun ls hl => ?_)
    have eq17 : hp12 qa900 11 = .int zi8 := Eq.trans (Fr.at (cq := 13011) F14 kd900 (cd_o (by decide)) (by decide)) eq7
    have eq18 : hp12 qa900 13 = .int zi2 := Eq.trans (Fr.at (cq := 13013) F14 kd900 (cd_o (by decide)) (by decide)) eq1
    have eq19 : hp12 qa900 12 = .int zi5 := Eq.trans (Fr.at (cq := 13012) F14 kd900 (cd_o (by decide)) (by decide)) eq4
    have lp878 : ∀ (n876 : Nat) (hp532 : Nat → Nat → Value) (zi531 : Int32) (zi537 : Int32) (zi540 : Int32) (zi543 : Int32) (H : Heap) (locs : List Loc) (ls : Array Slot), 1602 - 4*zi537.toInt - zi540.toInt < (n876 : Int) → Ok K hp532 → Fr [13011, 13012, 13013, 13014, 13015, 13016, 86000, 87000, 88000] K hp12 hp532 → ((0 : Int) ≤ zi531.toInt ∧ zi531.toInt ≤ 1) → ((0 : Int) ≤ zi537.toInt ∧ zi537.toInt ≤ 400) → hp532 qa900 11 = .int zi537 → ((0 : Int) ≤ zi540.toInt ∧ zi540.toInt ≤ 2) → hp532 qa900 13 = .int zi540 → ((0 : Int) ≤ zi543.toInt ∧ zi543.toInt ≤ 7) → hp532 qa900 12 = .int zi543 → (4*zi537.toInt + zi540.toInt ≥ 4*zi8.toInt + zi2.toInt) → (zi540.toInt ≥ zi2.toInt) → (zi543.toInt ≤ 6 + zi540.toInt) → (zi543.toInt ≤ 7*zi540.toInt + 7*(zi531 : Int32).toInt) → lv_has ls 3 [(0, .ref qa900), (1, .int zi531)] → PW G cy K ln Ls A hp532 H → va_S A s.heap H locs → W p l e ({ frames := 4, cells := 0, slots := 0, locals := 85 } : Room) s m ([.ref qa900] : List Value).toArray below meth c H locs 0 0 Q (F0 m 15 ls []) := by
      intro n876
      induction n876 with
      | zero =>
        intro hp532 zi531 zi537 zi540 zi543 H locs ls hm879 ok534 F533 bd548 bd549 eq536 bd550 eq539 bd551 eq542 rq544 rq545 rq546 rq547 hl hw hS
        exact absurd hm879 (by omega)
      | succ n876 ih877 =>
        intro hp532 zi531 zi537 zi540 zi543 H locs ls hm879 ok534 F533 bd548 bd549 eq536 bd550 eq539 bd551 eq542 rq544 rq545 rq546 rq547 hl hw hS
        refine lv_iload_n hx hb dX12_condition_15 rfl (lv_at hl 1 rfl) ?_
        refine lv_if_eq (tgt := 118) hx hb dX12_condition_16 (by decide) (fun cn880 => ?_) (fun cn880 => ?_)
        · skip
          have bd881 : (0 : Int) ≤ zi531.toInt ∧ zi531.toInt ≤ 0 := r_eq_x cn880 bd548 bc_0 (by decide) (by decide)
          refine lv_aload_n hx hb dX12_condition_118 rfl (lv_at hl 0 rfl) ?_
          obtain ⟨qa883, eq882, kd884⟩ := rd_13041 ok534 kd900
          refine p_get (ci := 12) (v := .ref qa883) (C := RX12) (T := TX12) (N := 69) hx hb hT iw_X12 hown hK hw hW kd900 (by decide) rfl rfl 41 (by decide) eq882 (hT _ tb_1415) (fun _ h9 => h9) dX12_condition_119 ?_
          refine lv_iconst (v := 0) hx hb dX12_condition_122 (by decide) ?_
          obtain ⟨wl886, eq885⟩ := rd_86000 ok534 kd884 ((0 : Int32).toNatClampNeg)
          refine p_lald (v := wl886) hx hb hK hw hW kd884 (by decide) rfl (hW.len kd884 (n := 8) rfl (by decide)) (vp_b bc_0 (by decide) (by decide)) eq885 dX12_condition_123 ?_
          rw [hQ]
          exact kz_l hx hb hr hlocks hS hp532 hw ⟨ok534, (Fr.tr (Fr.tr (Fr.rf) F14 (by decide)) F533 (by decide)), (by simp only [gi_of eq1, gi_of eq536, gi_of eq539, gi_of eq7]; omega), (by simp only [gi_of eq1, gi_of eq539]; omega), (by simp only [gi_of eq539, gi_of eq542]; omega)⟩ (Nat.le_of_ble_eq_true rfl) (Nat.le_of_ble_eq_true rfl) dX12_condition_124
        · skip
          have tf887 : (zi531 : Int32).toInt ≠ (0 : Int32).toInt := fun e => cn880 (Int32.toInt_inj.mp e)
          have := toi bc_0
          have bd888 : (1 : Int) ≤ zi531.toInt ∧ zi531.toInt ≤ 1 := r_ne_lo cn880 bd548 (toi bc_0) (by decide) (by decide)
          refine lv_aload_n hx hb dX12_condition_19 rfl (lv_at hl 0 rfl) ?_
          refine p_get (ci := 12) (v := .int zi540) (C := RX12) (T := TX12) (N := 69) hx hb hT iw_X12 hown hK hw hW kd900 (by decide) rfl rfl 13 (by decide) eq539 (hT _ tb_1387) (fun _ h9 => h9) dX12_condition_20 ?_
          refine lv_if_ne (tgt := 118) hx hb dX12_condition_23 (by decide) (fun cn889 => ?_) (fun cn889 => ?_)
          · skip
            have tf890 : (zi540 : Int32).toInt ≠ (0 : Int32).toInt := fun e => cn889 (Int32.toInt_inj.mp e)
            have := toi bc_0
            have bd891 : (1 : Int) ≤ zi540.toInt ∧ zi540.toInt ≤ 2 := r_ne_lo cn889 bd550 (toi bc_0) (by decide) (by decide)
            refine lv_aload_n hx hb dX12_condition_118 rfl (lv_at hl 0 rfl) ?_
            obtain ⟨qa893, eq892, kd894⟩ := rd_13041 ok534 kd900
            refine p_get (ci := 12) (v := .ref qa893) (C := RX12) (T := TX12) (N := 69) hx hb hT iw_X12 hown hK hw hW kd900 (by decide) rfl rfl 41 (by decide) eq892 (hT _ tb_1415) (fun _ h9 => h9) dX12_condition_119 ?_
            refine lv_iconst (v := 0) hx hb dX12_condition_122 (by decide) ?_
            obtain ⟨wl896, eq895⟩ := rd_86000 ok534 kd894 ((0 : Int32).toNatClampNeg)
            refine p_lald (v := wl896) hx hb hK hw hW kd894 (by decide) rfl (hW.len kd894 (n := 8) rfl (by decide)) (vp_b bc_0 (by decide) (by decide)) eq895 dX12_condition_123 ?_
            rw [hQ]
            exact kz_l hx hb hr hlocks hS hp532 hw ⟨ok534, (Fr.tr (Fr.tr (Fr.rf) F14 (by decide)) F533 (by decide)), (by simp only [gi_of eq1, gi_of eq536, gi_of eq539, gi_of eq7]; omega), (by simp only [gi_of eq1, gi_of eq539]; omega), (by simp only [gi_of eq539, gi_of eq542]; omega)⟩ (Nat.le_of_ble_eq_true rfl) (Nat.le_of_ble_eq_true rfl) dX12_condition_124
          · skip
            have bd897 : (0 : Int) ≤ zi540.toInt ∧ zi540.toInt ≤ 0 := r_eq_x cn889 bd550 bc_0 (by decide) (by decide)
            refine lv_aload_n hx hb dX12_condition_26 rfl (lv_at hl 0 rfl) ?_
            refine kq_v hw hS hA (va_runV (As := []) (rest := []) ⟨hx, hb, hml, hown, hT⟩ (cX12_nots_0 l G cy ev K ln Ls hW _ hp532 ok534 qa900 kd900) (cwV 0 hT (good_V tb_1684 tb_1681 tb_1683 tb_67 tb_122) rfl rfl rfl (by decide +kernel) ⟨Nat.le_of_ble_eq_true rfl, Nat.le_of_ble_eq_true rfl⟩) (pool_preV (ci := 12) hK hE hS hA hw hW kd900 (by decide) rfl) rfl rfl hl.1 rfl (lv_room (Nat.le_of_ble_eq_true rfl)) dX12_condition_27 ⟨Nat.le_of_ble_eq_true rfl, Nat.le_of_ble_eq_true rfl⟩) (fun hp898 H locs hq901 hw hS => ?_)
            obtain ⟨ok899, F900, rh903, rh904⟩ := hq901
            have hw : PW G cy K ln Ls A hp898 H := hw
            obtain ⟨zi906, eq905, bd907⟩ := rd_13013 ok899 kd900
            obtain ⟨zi909, eq908, bd910⟩ := rd_13011 ok899 kd900
            simp only [gi_of eq536, gi_of eq539, gi_of eq905, gi_of eq908] at rh903
            simp only [gi_of eq539, gi_of eq905] at rh904
            refine lv_aload_n hx hb dX12_condition_30 rfl (lv_at hl 0 rfl) ?_
            refine lv_bipush (v := 6) hx hb dX12_condition_31 (by decide) ?_
            obtain ⟨qa912, eq911, kd913⟩ := rd_13005 ok899 kd900
            obtain ⟨zi915, eq914⟩ := rd_62000 ok899 kd913 ((zi909 : Int32).toNatClampNeg)
            refine kq_i hw hS hA (va_runV (As := [.int 6]) (rest := []) ⟨hx, hb, hml, hown, hT⟩ (cX12_is_0 l G cy ev K ln Ls hW _ hp898 ok899 qa900 6 kd900) (cwV 1 hT (good_V tb_1623 tb_1620 tb_1622 tb_52 tb_122) rfl rfl rfl (by decide +kernel) ⟨Nat.le_of_ble_eq_true rfl, Nat.le_of_ble_eq_true rfl⟩) (pool_preV (ci := 12) hK hE hS hA hw hW kd900 (by decide) rfl) rfl rfl hl.1 rfl (lv_room (Nat.le_of_ble_eq_true rfl)) dX12_condition_33 ⟨Nat.le_of_ble_eq_true rfl, Nat.le_of_ble_eq_true rfl⟩) (fun zi920 hp916 H locs hq919 hw hS => ?_)
            obtain ⟨ok917, F918, bd921, hc922, rh923, rh924, rh925⟩ := hq919
            obtain rfl : hp898 = hp916 := (Fr.nil F918).symm
            have hw : PW G cy K ln Ls A hp898 H := hw
            have eq927 : hp898 qa900 12 = .int zi543 := Eq.trans (Fr.at (cq := 13012) F900 kd900 (cd_o (by decide)) (by decide)) eq542
            rcases b01 bd921 with cn926 | cn926
            · skip
              subst cn926
              have rh928 := rh925 rfl
              simp only [ge_of eq911 eq908 eq914, gi_of eq905, toi bc_6] at rh928
              refine lv_if_eq (tgt := 83) hx hb dX12_condition_36 (by decide) (fun _ => ?_) (fun c => absurd (d_eq bc_0 bc_0) c)
              refine lv_aload_n hx hb dX12_condition_83 rfl (lv_at hl 0 rfl) ?_
              refine lv_iconst (v := 0) hx hb dX12_condition_84 (by decide) ?_
              refine kq_i hw hS hA (va_runV (As := [.int 0]) (rest := []) ⟨hx, hb, hml, hown, hT⟩ (cX12_known_0 l G cy ev K ln Ls hW _ hp898 ok899 qa900 0 kd900) (cwV 1 hT (good_V tb_1671 tb_1668 tb_1670 tb_64 tb_122) rfl rfl rfl (by decide +kernel) ⟨Nat.le_of_ble_eq_true rfl, Nat.le_of_ble_eq_true rfl⟩) (pool_preV (ci := 12) hK hE hS hA hw hW kd900 (by decide) rfl) rfl rfl hl.1 rfl (lv_room (Nat.le_of_ble_eq_true rfl)) dX12_condition_85 ⟨Nat.le_of_ble_eq_true rfl, Nat.le_of_ble_eq_true rfl⟩) (fun zi933 hp929 H locs hq932 hw hS => ?_)
              obtain ⟨ok930, F931, bd934, rh935, rh936, rh937⟩ := hq932
              have hw : PW G cy K ln Ls A hp929 H := hw
              obtain ⟨zi939, eq938, bd940⟩ := rd_13013 ok930 kd900
              obtain ⟨zi942, eq941, bd943⟩ := rd_13011 ok930 kd900
              simp only [gi_of eq905, gi_of eq908, gi_of eq938, gi_of eq941] at rh935
              simp only [gi_of eq905, gi_of eq938] at rh936
              simp only [gi_of eq908, gi_of eq938, gi_of eq941] at rh937
              refine lv_istore_n (lv' := [(2, .int zi933), (0, .ref qa900), (1, .int zi531)]) hx hb dX12_condition_88 rfl hl (by decide) rfl (fun ls hl => ?_)
              refine lv_aload_n hx hb dX12_condition_89 rfl (lv_at hl 1 rfl) ?_
              refine p_get (ci := 12) (v := .int zi939) (C := RX12) (T := TX12) (N := 69) hx hb hT iw_X12 hown hK hw hW kd900 (by decide) rfl rfl 13 (by decide) eq938 (hT _ tb_1387) (fun _ h9 => h9) dX12_condition_90 ?_
              have eq945 : hp929 qa900 12 = .int zi543 := Eq.trans (Fr.at (cq := 13012) F931 kd900 (cd_o (by decide)) (by decide)) eq927
              refine lv_if_le (tgt := 98) hx hb dX12_condition_93 (by decide) (fun cn944 => ?_) (fun cn944 => ?_)
              · skip
                have bd946 : (0 : Int) ≤ zi939.toInt ∧ zi939.toInt ≤ 0 := r_le_x cn944 bd940 bc_0 (by decide) (by decide)
                refine lv_aload_n hx hb dX12_condition_98 rfl (lv_at hl 1 rfl) ?_
                refine lv_iload_n hx hb dX12_condition_99 rfl (lv_at hl 0 rfl) ?_
                have jn956 : ∀ (wl955 : Int64) (H : Heap) (locs : List Loc) (ls : Array Slot), lv_has ls 3 [(0, .ref qa900)] → PW G cy K ln Ls A hp929 H → va_S A s.heap H locs → W p l e ({ frames := 4, cells := 0, slots := 0, locals := 85 } : Room) s m ([.ref qa900] : List Value).toArray below meth c H locs 0 0 Q (F0 m 111 ls [.long wl955, .ref qa900]) := by
                  intro wl955 H locs ls hl hw hS
                  refine kq_i hw hS hA (va_runV (As := [.long wl955]) (rest := []) ⟨hx, hb, hml, hown, hT⟩ (cX12_takes_0 l G cy ev K ln Ls hW _ hp929 ok930 qa900 wl955 kd900 (by simp only [gi_of eq938, gi_of eq945]; omega)) (cwV 1 hT (good_V tb_1691 tb_1688 tb_1690 tb_68 tb_122) rfl rfl rfl (by decide +kernel) ⟨Nat.le_of_ble_eq_true rfl, Nat.le_of_ble_eq_true rfl⟩) (pool_preV (ci := 12) hK hE hS hA hw hW kd900 (by decide) rfl) rfl rfl hl.1 rfl (lv_room (Nat.le_of_ble_eq_true rfl)) dX12_condition_111 ⟨Nat.le_of_ble_eq_true rfl, Nat.le_of_ble_eq_true rfl⟩) (fun zi961 hp957 H locs hq960 hw hS => ?_)
                  obtain ⟨ok958, F959, bd962, hc963, rh964, rh965, rh966, rh967⟩ := hq960
                  have hw : PW G cy K ln Ls A hp957 H := hw
                  obtain ⟨zi969, eq968, bd970⟩ := rd_13013 ok958 kd900
                  obtain ⟨zi972, eq971, bd973⟩ := rd_13011 ok958 kd900
                  simp only [gi_of eq938, gi_of eq941, gi_of eq968, gi_of eq971] at rh964
                  simp only [gi_of eq938, gi_of eq968] at rh965
                  obtain ⟨zi975, eq974, bd976⟩ := rd_13012 ok958 kd900
                  simp only [gi_of eq968, gi_of eq974] at rh966
                  rcases b01 bd962 with cn977 | cn977
                  · skip
                    subst cn977
                    have rh978 := rh967 rfl
                    simp only [gi_of eq968, gi_of eq974] at rh978
                    refine lv_istore_n (lv' := [(1, .int 0), (0, .ref qa900)]) hx hb dX12_condition_114 rfl hl (by decide) rfl (fun ls hl => ?_)
                    refine lv_goto (tgt := 15) hx hb dX12_condition_115 (by decide) ?_
                    exact ih877 hp957 0 zi972 zi969 zi975 _ _ ls (by have := toi bc_0; have := hm879; omega) ok958 (Fr.tr (Fr.tr (Fr.tr (Fr.tr (Fr.rf) F533 (by decide)) F900 (by decide)) F931 (by decide)) F959 (by decide)) (b_wid2 bc_0 (by decide) (by decide)) (b_wid2 bd973 (by decide) (by decide)) eq971 (b_wid2 bd970 (by decide) (by decide)) eq968 (b_wid2 bd976 (by decide) (by decide)) eq974 (by have := toi bc_0; omega) (by have := toi bc_0; omega) (by have := toi bc_0; omega) (by have := toi bc_0; omega) (lv_sub hl [1, 0] rfl) hw hS
                  · skip
                    subst cn977
                    obtain ⟨zi979, eq980, bd981⟩ := hc963 rfl
                    have hx982 : zi972 = zi979 := Value.int.inj (Eq.trans (Eq.symm eq971) eq980)
                    subst hx982
                    have bd983 : (1 : Int) ≤ zi972.toInt ∧ zi972.toInt ≤ 400 := b_meet bd973 bd981 (by decide) (by decide)
                    refine lv_istore_n (lv' := [(1, .int 1), (0, .ref qa900)]) hx hb dX12_condition_114 rfl hl (by decide) rfl (fun ls hl => ?_)
                    refine lv_goto (tgt := 15) hx hb dX12_condition_115 (by decide) ?_
                    exact ih877 hp957 1 zi972 zi969 zi975 _ _ ls (by have := toi bc_1; have := hm879; omega) ok958 (Fr.tr (Fr.tr (Fr.tr (Fr.tr (Fr.rf) F533 (by decide)) F900 (by decide)) F931 (by decide)) F959 (by decide)) (b_wid2 bc_1 (by decide) (by decide)) (b_wid2 bd983 (by decide) (by decide)) eq971 (b_wid2 bd970 (by decide) (by decide)) eq968 (b_wid2 bd976 (by decide) (by decide)) eq974 (by have := toi bc_1; omega) (by have := toi bc_1; omega) (by have := toi bc_1; omega) (by have := toi bc_1; omega) (lv_sub hl [1, 0] rfl) hw hS
                refine lv_if_ge (tgt := 107) hx hb dX12_condition_100 (by decide) (fun cn947 => ?_) (fun cn947 => ?_)
                · skip
                  have bd984 : (0 : Int) ≤ zi933.toInt ∧ zi933.toInt ≤ 7 := r_le_y cn947 bc_0 bd934 (by decide) (by decide)
                  refine lv_iload_n hx hb dX12_condition_107 rfl (lv_at hl 0 rfl) ?_
                  refine kq_l hw hS hA (va_runS (As := [.int zi933]) (rest := [.ref qa900]) ⟨hx, hb, hml, hown, hT⟩ (cX12_statesOf_0 l G cy ev K ln Ls hW _ hp929 ok930 zi933) (va_cwS 1 hT (good_S tb_1687 tb_1685 tb_1686 tb_122) rfl rfl rfl (by decide +kernel) ⟨Nat.le_of_ble_eq_true rfl, Nat.le_of_ble_eq_true rfl⟩) (PB2.preS hK hE hS hA hw) rfl rfl hl.1 rfl (lv_room (Nat.le_of_ble_eq_true rfl)) dX12_condition_108 ⟨Nat.le_of_ble_eq_true rfl, Nat.le_of_ble_eq_true rfl⟩) (fun wl989 hp985 H locs hq988 hw hS => ?_)
                  obtain ⟨ok986, F987⟩ := hq988
                  obtain rfl : hp929 = hp985 := (Fr.nil F987).symm
                  have hw : PW G cy K ln Ls A hp929 H := hw
                  exact jn956 wl989 _ _ ls (lv_sub hl [1] rfl) hw hS
                · skip
                  have bd990 : (-1 : Int) ≤ zi933.toInt ∧ zi933.toInt ≤ -1 := r_lt_x (Int32.not_le.mp cn947) bd934 bc_0 (by decide) (by decide)
                  refine lv_lconst (v := 0) hx hb dX12_condition_103 (by decide) ?_
                  refine lv_goto (tgt := 111) hx hb dX12_condition_104 (by decide) ?_
                  exact jn956 0 _ _ ls (lv_sub hl [1] rfl) hw hS
              · skip
                have bd991 : (1 : Int) ≤ zi939.toInt ∧ zi939.toInt ≤ 2 := r_lt_y (Int32.not_le.mp cn944) bc_0 bd940 (by decide) (by decide)
                refine lv_lconst (v := 0) hx hb dX12_condition_96 (by decide) ?_
                rw [hQ]
                exact kz_l hx hb hr hlocks hS hp929 hw ⟨ok930, (Fr.tr (Fr.tr (Fr.tr (Fr.tr (Fr.rf) F14 (by decide)) F533 (by decide)) F900 (by decide)) F931 (by decide)), (by simp only [gi_of eq1, gi_of eq7, gi_of eq938, gi_of eq941]; omega), (by simp only [gi_of eq1, gi_of eq938]; omega), (by simp only [gi_of eq938, gi_of eq945]; omega)⟩ (Nat.le_of_ble_eq_true rfl) (Nat.le_of_ble_eq_true rfl) dX12_condition_97
            · skip
              subst cn926
              obtain ⟨zi992, eq993, bd994⟩ := hc922 rfl
              have hx995 : zi906 = zi992 := Value.int.inj (Eq.trans (Eq.symm eq905) eq993)
              subst hx995
              have bd996 : (0 : Int) ≤ zi906.toInt ∧ zi906.toInt ≤ 0 := b_meet bd907 bd994 (by decide) (by decide)
              have rh997 := rh923 rfl
              simp only [ge_of eq911 eq908 eq914, toi bc_6] at rh997
              have rh998 := rh924 rfl
              simp only [gi_of eq905] at rh998
              refine lv_if_eq (tgt := 83) hx hb dX12_condition_36 (by decide) (fun c => absurd c (d_ne bc_1 bc_0 (by decide))) (fun _ => ?_)
              have bd999 : (0 : Int) ≤ zi543.toInt ∧ zi543.toInt ≤ 6 := (by omega)
              refine lv_aload_n hx hb dX12_condition_39 rfl (lv_at hl 0 rfl) ?_
              refine p_get (ci := 12) (v := .int zi543) (C := RX12) (T := TX12) (N := 69) hx hb hT iw_X12 hown hK hw hW kd900 (by decide) rfl rfl 12 (by decide) eq927 (hT _ tb_1386) (fun _ h9 => h9) dX12_condition_40 ?_
              refine lv_bipush (v := 6) hx hb dX12_condition_43 (by decide) ?_
              refine lv_icmp_ne (tgt := 53) hx hb dX12_condition_45 (by decide) (fun cn1000 => ?_) (fun cn1000 => ?_)
              · skip
                have tf1001 : (zi543 : Int32).toInt ≠ (6 : Int32).toInt := fun e => cn1000 (Int32.toInt_inj.mp e)
                have := toi bc_6
                have bd1002 : (0 : Int) ≤ zi543.toInt ∧ zi543.toInt ≤ 5 := r_ne_hi cn1000 bd999 (toi bc_6) (by decide) (by decide)
                refine lv_aload_n hx hb dX12_condition_53 rfl (lv_at hl 0 rfl) ?_
                refine p_get (ci := 12) (v := .int zi906) (C := RX12) (T := TX12) (N := 69) hx hb hT iw_X12 hown hK hw hW kd900 (by decide) rfl rfl 13 (by decide) eq905 (hT _ tb_1387) (fun _ h9 => h9) dX12_condition_54 ?_
                refine lv_if_le (tgt := 62) hx hb dX12_condition_57 (by decide) (fun _ => ?_) (fun c => absurd (d_le bd996 bc_0 (by decide)) c)
                refine lv_aload_n hx hb dX12_condition_62 rfl (lv_at hl 0 rfl) ?_
                refine lv_dup hx hb dX12_condition_63 rfl ?_
                refine p_get (ci := 12) (v := .int zi543) (C := RX12) (T := TX12) (N := 69) hx hb hT iw_X12 hown hK hw hW kd900 (by decide) rfl rfl 12 (by decide) eq927 (hT _ tb_1386) (fun _ h9 => h9) dX12_condition_64 ?_
                refine lv_iconst (v := 1) hx hb dX12_condition_67 (by decide) ?_
                refine lv_iadd hx hb dX12_condition_68 (lv_topi (fun zi1003 ea1004 => ?_))
                have bd1005 : (1 : Int) ≤ zi1003.toInt ∧ zi1003.toInt ≤ 6 := b_iadd ea1004 bd1002 bc_1 (by decide) (by decide) (by decide) (by decide)
                have qe1006 : zi1003.toInt = (zi543 : Int32).toInt + (1 : Int32).toInt := e_iadd ea1004 bd1002 bc_1 (by decide) (by decide)
                have qe1007 : zi1003.toInt = zi543.toInt + 1 := by have ha : (1 : Int32).toInt = 1 := (by decide); rw [ha] at qe1006; exact qe1006
                refine p_put (ci := 12) (v := .int zi1003) (ty := .int) (C := RX12) (T := TX12) (N := 69) hx hb hT iw_X12 tyX12 tyX12_ok nmX12 hown hK hw hS hW kd900 (by decide) rfl rfl 12 (by decide) (hT _ tb_1386) (fun _ h9 => h9) rfl (by decide +kernel) rfl rfl dX12_condition_69 (fun hp1008 eh1009 H locs hw hS => ?_)
                have ok1010 := wr_13012 bd1005 (by decide) (by decide) ok899 kd900 eh1009
                refine lv_aload_n hx hb dX12_condition_72 rfl (lv_at hl 0 rfl) ?_
                have eq1011 : hp1008 qa900 13 = .int zi906 := Eq.trans (up_at eh1009 (Or.inr (by decide))) eq905
                have eq1012 : hp1008 qa900 11 = .int zi909 := Eq.trans (up_at eh1009 (Or.inr (by decide))) eq908
                refine kq_v hw hS hA (va_runV (As := []) (rest := []) ⟨hx, hb, hml, hown, hT⟩ (cX12_goesOn_0 l G cy ev K ln Ls hW _ hp1008 ok1010 qa900 kd900) (cwV 0 hT (good_V tb_1639 tb_1636 tb_1638 tb_56 tb_122) rfl rfl rfl (by decide +kernel) ⟨Nat.le_of_ble_eq_true rfl, Nat.le_of_ble_eq_true rfl⟩) (pool_preV (ci := 12) hK hE hS hA hw hW kd900 (by decide) rfl) rfl rfl hl.1 rfl (lv_room (Nat.le_of_ble_eq_true rfl)) dX12_condition_73 ⟨Nat.le_of_ble_eq_true rfl, Nat.le_of_ble_eq_true rfl⟩) (fun hp1013 H locs hq1016 hw hS => ?_)
                obtain ⟨ok1014, F1015, ⟨zi1018, eq1019, bd1020⟩, rh1021, rh1022, rh1023⟩ := hq1016
                have hw : PW G cy K ln Ls A hp1013 H := hw
                obtain ⟨zi1025, eq1024, bd1026⟩ := rd_13013 ok1014 kd900
                simp only [gi_of eq1011, gi_of eq1012, gi_of eq1019, gi_of eq1024] at rh1021
                simp only [gi_of eq1011, gi_of eq1024] at rh1022
                simp only [gi_of eq1012, gi_of eq1019, gi_of eq1024] at rh1023
                refine lv_aload_n hx hb dX12_condition_76 rfl (lv_at hl 0 rfl) ?_
                refine kq_v hw hS hA (va_runV (As := []) (rest := []) ⟨hx, hb, hml, hown, hT⟩ (cX12_opensCondition_0 l G cy ev K ln Ls hW _ hp1013 ok1014 qa900 kd900) (cwV 0 hT (good_V tb_1679 tb_1676 tb_1678 tb_66 tb_122) rfl rfl rfl (by decide +kernel) ⟨Nat.le_of_ble_eq_true rfl, Nat.le_of_ble_eq_true rfl⟩) (pool_preV (ci := 12) hK hE hS hA hw hW kd900 (by decide) rfl) rfl rfl hl.1 rfl (lv_room (Nat.le_of_ble_eq_true rfl)) dX12_condition_77 ⟨Nat.le_of_ble_eq_true rfl, Nat.le_of_ble_eq_true rfl⟩) (fun hp1027 H locs hq1030 hw hS => ?_)
                obtain ⟨ok1028, F1029⟩ := hq1030
                have hw : PW G cy K ln Ls A hp1027 H := hw
                refine lv_goto (tgt := 15) hx hb dX12_condition_80 (by decide) ?_
                have eq1032 : hp1027 qa900 11 = .int zi1018 := Eq.trans (Fr.at (cq := 13011) F1029 kd900 (cd_o (by decide)) (by decide)) eq1019
                have eq1033 : hp1027 qa900 13 = .int zi1025 := Eq.trans (Fr.at (cq := 13013) F1029 kd900 (cd_o (by decide)) (by decide)) eq1024
                have eq1034 : hp1027 qa900 12 = .int zi1003 := Eq.trans (Fr.at (cq := 13012) F1029 kd900 (cd_o (by decide)) (by decide)) (Eq.trans (Fr.at (cq := 13012) F1015 kd900 (cd_o (by decide)) (by decide)) (hp_self eh1009))
                exact ih877 hp1027 zi531 zi1018 zi1025 zi1003 _ _ ls (by have := hm879; omega) ok1028 (Fr.tr (Fr.tr (Fr.put (cq := 13012) (Fr.tr (Fr.tr (Fr.rf) F533 (by decide)) F900 (by decide)) eh1009 kd900 (cd_o (by decide)) (by decide)) F1015 (by decide)) F1029 (by decide)) (b_wid2 bd888 (by decide) (by decide)) (b_wid2 bd1020 (by decide) (by decide)) eq1032 (b_wid2 bd1026 (by decide) (by decide)) eq1033 (b_wid2 bd1005 (by decide) (by decide)) eq1034 (by omega) (by omega) (by omega) (by omega) (lv_sub hl [0, 1] rfl) hw hS
              · skip
                have bd1035 : (6 : Int) ≤ zi543.toInt ∧ zi543.toInt ≤ 6 := r_eq_x cn1000 bd999 bc_6 (by decide) (by decide)
                refine lv_aload_n hx hb dX12_condition_48 rfl (lv_at hl 0 rfl) ?_
                refine lv_iconst (v := 2) hx hb dX12_condition_49 (by decide) ?_
                refine kq_v hw hS hA (va_runV (As := [.int 2]) (rest := []) ⟨hx, hb, hml, hown, hT⟩ (cX12_fail_0 l G cy ev K ln Ls hW _ hp898 ok899 qa900 2 kd900 (b_wid2 bc_2 (by decide) (by decide))) (cwV 1 hT (good_V tb_1635 tb_1632 tb_1634 tb_55 tb_122) rfl rfl rfl (by decide +kernel) ⟨Nat.le_of_ble_eq_true rfl, Nat.le_of_ble_eq_true rfl⟩) (pool_preV (ci := 12) hK hE hS hA hw hW kd900 (by decide) rfl) rfl rfl hl.1 rfl (lv_room (Nat.le_of_ble_eq_true rfl)) dX12_condition_50 ⟨Nat.le_of_ble_eq_true rfl, Nat.le_of_ble_eq_true rfl⟩) (fun hp1036 H locs hq1039 hw hS => ?_)
                obtain ⟨ok1037, F1038, ⟨zi1041, eq1042, bd1043⟩, rh1044⟩ := hq1039
                have hw : PW G cy K ln Ls A hp1036 H := hw
                simp only [gi_of eq1042, gi_of eq905] at rh1044
                refine lv_aload_n hx hb dX12_condition_53 rfl (lv_at hl 0 rfl) ?_
                refine p_get (ci := 12) (v := .int zi1041) (C := RX12) (T := TX12) (N := 69) hx hb hT iw_X12 hown hK hw hW kd900 (by decide) rfl rfl 13 (by decide) eq1042 (hT _ tb_1387) (fun _ h9 => h9) dX12_condition_54 ?_
                refine lv_if_le (tgt := 62) hx hb dX12_condition_57 (by decide) (fun c => absurd c (d_nle bd1043 bc_0 (by decide))) (fun _ => ?_)
                refine lv_lconst (v := 0) hx hb dX12_condition_60 (by decide) ?_
                have eq1045 : hp1036 qa900 11 = .int zi909 := Eq.trans (Fr.at (cq := 13011) F1038 kd900 (cd_o (by decide)) (by decide)) eq908
                have eq1046 : hp1036 qa900 12 = .int zi543 := Eq.trans (Fr.at (cq := 13012) F1038 kd900 (cd_o (by decide)) (by decide)) eq927
                rw [hQ]
                exact kz_l hx hb hr hlocks hS hp1036 hw ⟨ok1037, (Fr.tr (Fr.tr (Fr.tr (Fr.tr (Fr.rf) F14 (by decide)) F533 (by decide)) F900 (by decide)) F1038 (by decide)), (by simp only [gi_of eq1, gi_of eq1042, gi_of eq1045, gi_of eq7]; omega), (by simp only [gi_of eq1, gi_of eq1042]; omega), (by simp only [gi_of eq1042, gi_of eq1046]; omega)⟩ (Nat.le_of_ble_eq_true rfl) (Nat.le_of_ble_eq_true rfl) dX12_condition_61
    exact lp878 _ hp12 1 zi8 zi2 zi5 _ _ ls (lp_in _) ok13 (Fr.rf) (b_wid2 bc_1 (by decide) (by decide)) (b_wid2 bd9 (by decide) (by decide)) eq17 (b_wid2 bd11 (by decide) (by decide)) eq18 (b_wid2 bd6 (by decide) (by decide)) eq19 (by have := toi bc_1; omega) (by have := toi bc_1; omega) (by have := toi bc_1; omega) (by have := toi bc_1; omega) (lv_sub hl [1, 0] rfl) hw hS
  · skip
    have bd1047 : (1 : Int) ≤ zi2.toInt ∧ zi2.toInt ≤ 2 := r_lt_y (Int32.not_le.mp cn10) bc_0 bd3 (by decide) (by decide)
    refine lv_lconst (v := 0) hx hb dX12_condition_7 (by decide) ?_
    rw [hQ]
    exact kz_l hx hb hr hlocks hS hp0 hw ⟨ok0, (Fr.rf), (by simp only [gi_of eq1, gi_of eq7]; omega), (by simp only [gi_of eq1]; omega), (by simp only [gi_of eq1, gi_of eq4]; omega)⟩ (Nat.le_of_ble_eq_true rfl) (Nat.le_of_ble_eq_true rfl) dX12_condition_8

set_option maxRecDepth 100000 in
set_option maxHeartbeats 4000000 in
theorem cX12_tellWord_0 (l : Launch) (G : va_G) (cy : Nat → ClassId) (ev : Ew) (K ln : Nat → Nat) (Ls : List Nat) (hW : SW K ln Ls) (sz : Nat) (hp0 : Nat → Nat → Value) (ok0 : Ok K hp0) (qa900 : Nat) (kd900 : K qa900 = 13) (rp0 : (gi hp0 qa900 12) ≤ 7*(gi hp0 qa900 13)) (rp1 : (ge hp0 qa900 28 19) ≤ 15) : Met l yX12_tellWord (WS yX12_tellWord cX12_tellWord 2 none) { frames := 5, cells := 0, slots := 0, locals := 107 } (PB2 [.ref qa900] sz G cy ev (va_pl Ls (cellOf cy K ln hp0))) (QBv (S := (Nat → Nat → Value)) (fun u : (Nat → Nat → Value) => Ok K u ∧ Fr [13011, 13012, 13013, 13014, 13015, 13016, 74000, 75000, 76000, 77000, 86000, 87000, 88000] K hp0 u ∧ (4*(gi u qa900 11) + (gi u qa900 13) ≥ 4*(gi hp0 qa900 11) + (gi hp0 qa900 13)) ∧ ((gi u qa900 13) ≥ (gi hp0 qa900 13)) ∧ ((gi u qa900 12) ≤ 7*(gi u qa900 13))) G (fun u => va_pl Ls (cellOf cy K ln u)) (va_A (va_pl Ls (cellOf cy K ln hp0)) sz)) 0 0 (va_A (va_pl Ls (cellOf cy K ln hp0)) sz) := by
  refine met_of2 (y := yX12_tellWord) (L := 2) (av := [.ref qa900]) (Qc := fun A => QBv (S := (Nat → Nat → Value)) (fun u : (Nat → Nat → Value) => Ok K u ∧ Fr [13011, 13012, 13013, 13014, 13015, 13016, 74000, 75000, 76000, 77000, 86000, 87000, 88000] K hp0 u ∧ (4*(gi u qa900 11) + (gi u qa900 13) ≥ 4*(gi hp0 qa900 11) + (gi hp0 qa900 13)) ∧ ((gi u qa900 13) ≥ (gi hp0 qa900 13)) ∧ ((gi u qa900 12) ≤ 7*(gi u qa900 13))) G (fun u => va_pl Ls (cellOf cy K ln u)) A) (plainFor_of_name (by decide)) (Nat.le_of_ble_eq_true rfl) ?_
  intro p e s m below meth c hsz hx hb hr hml hown hT hlocks hin hK A hA hE hw hS ls hl
  have hw : PW G cy K ln Ls A hp0 s.heap := hw
  have hown : s.vm.findClass "LieClockModel" = some m.cls := hown
  have hl : lv_has ls 2 [(0, .ref qa900)] := hl
  obtain ⟨Q, hQ⟩ : ∃ Q : State → Prop, Q = MQ below (QBv (S := (Nat → Nat → Value)) (fun u : (Nat → Nat → Value) => Ok K u ∧ Fr [13011, 13012, 13013, 13014, 13015, 13016, 74000, 75000, 76000, 77000, 86000, 87000, 88000] K hp0 u ∧ (4*(gi u qa900 11) + (gi u qa900 13) ≥ 4*(gi hp0 qa900 11) + (gi hp0 qa900 13)) ∧ ((gi u qa900 13) ≥ (gi hp0 qa900 13)) ∧ ((gi u qa900 12) ≤ 7*(gi u qa900 13))) G (fun u => va_pl Ls (cellOf cy K ln u)) A) ([.ref qa900] : List Value).toArray s 0 0 A := ⟨_, rfl⟩
  rw [← hQ]
  obtain ⟨zi2, eq1, bd3⟩ := rd_13013 ok0 kd900
  obtain ⟨zi5, eq4, bd6⟩ := rd_13012 ok0 kd900
  obtain ⟨zi8, eq7, bd9⟩ := rd_13011 ok0 kd900
  obtain ⟨qa11, eq10, kd12⟩ := rd_13028 ok0 kd900
  obtain ⟨zi14, eq13, bd15⟩ := rd_13019 ok0 kd900
  obtain ⟨zi17, eq16, bd18⟩ := rd_74000 ok0 kd12 ((zi14 : Int32).toNatClampNeg)
  have rq0 := rp0
  simp only [gi_of eq1, gi_of eq4] at rq0
  have rq1 := rp1
  simp only [ge_of eq10 eq13 eq16] at rq1
  have bd19 : (0 : Int) ≤ zi17.toInt ∧ zi17.toInt ≤ 15 := (by omega)
  refine lv_bipush (v := 16) hx hb dX12_tellWord_0 (by decide) ?_
  refine lv_aload_n hx hb dX12_tellWord_2 rfl (lv_at hl 0 rfl) ?_
  refine p_get (ci := 12) (v := .int zi14) (C := RX12) (T := TX12) (N := 69) hx hb hT iw_X12 hown hK hw hW kd900 (by decide) rfl rfl 19 (by decide) eq13 (hT _ tb_1393) (fun _ h9 => h9) dX12_tellWord_3 ?_
  refine lv_imul hx hb dX12_tellWord_6 (lv_topi (fun zi20 ea21 => ?_))
  have bd22 : (0 : Int) ≤ zi20.toInt ∧ zi20.toInt ≤ 16 := b_imul ea21 bc_16 bd15 (by decide) (by decide) (by decide) (by decide) (by decide)
  have qe23 : zi20.toInt = (16 : Int32).toInt * (zi14 : Int32).toInt := e_imul (b := 16) (d := 1) ea21 (b_wid2 bc_16 (by decide) (by decide)) (b_wid2 bd15 (by decide) (by decide)) (by decide)
  have qe24 : zi20.toInt = 16 * zi14.toInt := by have ha : (16 : Int32).toInt = 16 := (by decide); rw [ha] at qe23; exact qe23
  refine lv_aload_n hx hb dX12_tellWord_7 rfl (lv_at hl 0 rfl) ?_
  refine p_get (ci := 12) (v := .ref qa11) (C := RX12) (T := TX12) (N := 69) hx hb hT iw_X12 hown hK hw hW kd900 (by decide) rfl rfl 28 (by decide) eq10 (hT _ tb_1402) (fun _ h9 => h9) dX12_tellWord_8 ?_
  refine lv_aload_n hx hb dX12_tellWord_11 rfl (lv_at hl 0 rfl) ?_
  refine p_get (ci := 12) (v := .int zi14) (C := RX12) (T := TX12) (N := 69) hx hb hT iw_X12 hown hK hw hW kd900 (by decide) rfl rfl 19 (by decide) eq13 (hT _ tb_1393) (fun _ h9 => h9) dX12_tellWord_12 ?_
  refine p_iald (v := zi17) hx hb hK hw hW kd12 (by decide) rfl (hW.len kd12 (n := 2) rfl (by decide)) (vp_b bd15 (by decide) (by decide)) eq16 dX12_tellWord_15 ?_
  refine lv_iadd hx hb dX12_tellWord_16 (lv_topi (fun zi25 ea26 => ?_))
  have bd27 : (0 : Int) ≤ zi25.toInt ∧ zi25.toInt ≤ 31 := b_iadd ea26 bd22 bd19 (by decide) (by decide) (by decide) (by decide)
  have qe28 : zi25.toInt = zi20.toInt + zi17.toInt := e_iadd ea26 bd22 bd19 (by decide) (by decide)
  refine lv_istore_n (lv' := [(1, .int zi25), (0, .ref qa900)]) hx hb dX12_tellWord_17 rfl hl (by decide) rfl (fun ls hl => ?_)
  refine lv_aload_n hx hb dX12_tellWord_18 rfl (lv_at hl 1 rfl) ?_
  obtain ⟨qa30, eq29, kd31⟩ := rd_13029 ok0 kd900
  refine p_get (ci := 12) (v := .ref qa30) (C := RX12) (T := TX12) (N := 69) hx hb hT iw_X12 hown hK hw hW kd900 (by decide) rfl rfl 29 (by decide) eq29 (hT _ tb_1403) (fun _ h9 => h9) dX12_tellWord_19 ?_
  refine lv_iload_n hx hb dX12_tellWord_22 rfl (lv_at hl 0 rfl) ?_
  refine lv_aload_n hx hb dX12_tellWord_23 rfl (lv_at hl 1 rfl) ?_
  refine lv_iconst (v := 1) hx hb dX12_tellWord_24 (by decide) ?_
  refine kq_i hw hS hA (va_runV (As := [.int 1]) (rest := [.int zi25, .ref qa30]) ⟨hx, hb, hml, hown, hT⟩ (cX12_known_0 l G cy ev K ln Ls hW _ hp0 ok0 qa900 1 kd900) (cwV 1 hT (good_V tb_1671 tb_1668 tb_1670 tb_64 tb_122) rfl rfl rfl (by decide +kernel) ⟨Nat.le_of_ble_eq_true rfl, Nat.le_of_ble_eq_true rfl⟩) (pool_preV (ci := 12) hK hE hS hA hw hW kd900 (by decide) rfl) rfl rfl hl.1 rfl (lv_room (Nat.le_of_ble_eq_true rfl)) dX12_tellWord_25 ⟨Nat.le_of_ble_eq_true rfl, Nat.le_of_ble_eq_true rfl⟩) (fun zi36 hp32 H locs hq35 hw hS => ?_)
  obtain ⟨ok33, F34, bd37, rh38, rh39, rh40⟩ := hq35
  have hw : PW G cy K ln Ls A hp32 H := hw
  obtain ⟨zi42, eq41, bd43⟩ := rd_13013 ok33 kd900
  obtain ⟨zi45, eq44, bd46⟩ := rd_13011 ok33 kd900
  simp only [gi_of eq1, gi_of eq41, gi_of eq44, gi_of eq7] at rh38
  simp only [gi_of eq1, gi_of eq41] at rh39
  simp only [gi_of eq41, gi_of eq44, gi_of eq7] at rh40
  refine p_iast (x := zi36) hx hb hK hw hS hW kd31 (by decide) rfl (hW.len kd31 (n := 32) rfl (by decide)) (vp_b bd27 (by decide) (by decide)) dX12_tellWord_28 (fun hp47 eh48 H locs hw hS => ?_)
  have ok49 := wr_75000 bd37 (by decide) (by decide) ok33 kd31 eh48
  refine lv_aload_n hx hb dX12_tellWord_29 rfl (lv_at hl 1 rfl) ?_
  obtain ⟨qa51, eq50, kd52⟩ := rd_13030 ok49 kd900
  refine p_get (ci := 12) (v := .ref qa51) (C := RX12) (T := TX12) (N := 69) hx hb hT iw_X12 hown hK hw hW kd900 (by decide) rfl rfl 30 (by decide) eq50 (hT _ tb_1404) (fun _ h9 => h9) dX12_tellWord_30 ?_
  refine lv_iload_n hx hb dX12_tellWord_33 rfl (lv_at hl 0 rfl) ?_
  refine lv_aload_n hx hb dX12_tellWord_34 rfl (lv_at hl 1 rfl) ?_
  have eq53 : hp47 qa900 13 = .int zi42 := Eq.trans (up_at eh48 (Or.inl (kd_ne kd900 kd31 (by decide)))) eq41
  refine p_get (ci := 12) (v := .int zi42) (C := RX12) (T := TX12) (N := 69) hx hb hT iw_X12 hown hK hw hW kd900 (by decide) rfl rfl 13 (by decide) eq53 (hT _ tb_1387) (fun _ h9 => h9) dX12_tellWord_35 ?_
  have eq55 : hp47 qa900 11 = .int zi45 := Eq.trans (up_at eh48 (Or.inl (kd_ne kd900 kd31 (by decide)))) eq44
  have eq56 : hp47 qa900 12 = .int zi5 := Eq.trans (up_at eh48 (Or.inl (kd_ne kd900 kd31 (by decide)))) (Eq.trans (Fr.at (cq := 13012) F34 kd900 (cd_o (by decide)) (by decide)) eq4)
  have eq57 : hp47 qa900 28 = .ref qa11 := Eq.trans (up_at eh48 (Or.inl (kd_ne kd900 kd31 (by decide)))) (Eq.trans (Fr.at (cq := 13028) F34 kd900 (cd_o (by decide)) (by decide)) eq10)
  have eq58 : hp47 qa900 19 = .int zi14 := Eq.trans (up_at eh48 (Or.inl (kd_ne kd900 kd31 (by decide)))) (Eq.trans (Fr.at (cq := 13019) F34 kd900 (cd_o (by decide)) (by decide)) eq13)
  have eq59 : hp47 qa11 (zi14 : Int32).toNatClampNeg = .int zi17 := Eq.trans (up_at eh48 (Or.inl (kd_ne kd12 kd31 (by decide)))) (Eq.trans (Fr.at (cq := 74000) F34 kd12 (cd_a (by decide)) (by decide)) eq16)
  have jn89 : ∀ (zi87 : Int32) (H : Heap) (locs : List Loc) (ls : Array Slot), ((0 : Int) ≤ zi87.toInt ∧ zi87.toInt ≤ 1) → lv_has ls 2 [(0, .ref qa900), (1, .int zi25)] → PW G cy K ln Ls A hp47 H → va_S A s.heap H locs → W p l e ({ frames := 5, cells := 0, slots := 0, locals := 107 } : Room) s m ([.ref qa900] : List Value).toArray below meth c H locs 0 0 Q (F0 m 55 ls [.int zi87, .int zi25, .ref qa51]) := by
    intro zi87 H locs ls bd88 hl hw hS
    refine p_zast (x := zi87) hx hb hK hw hS hW kd52 (by decide) rfl (hW.len kd52 (n := 32) rfl (by decide)) (vp_b bd27 (by decide) (by decide)) dX12_tellWord_55 (fun hp90 eh91 H locs hw hS => ?_)
    have ok92 := wr_76000 (nar_z zi87) (by decide) (by decide) ok49 kd52 eh91
    refine lv_aload_n hx hb dX12_tellWord_56 rfl (lv_at hl 0 rfl) ?_
    have eq93 : hp90 qa900 30 = .ref qa51 := Eq.trans (up_at eh91 (Or.inl (kd_ne kd900 kd52 (by decide)))) eq50
    refine p_get (ci := 12) (v := .ref qa51) (C := RX12) (T := TX12) (N := 69) hx hb hT iw_X12 hown hK hw hW kd900 (by decide) rfl rfl 30 (by decide) eq93 (hT _ tb_1404) (fun _ h9 => h9) dX12_tellWord_57 ?_
    refine lv_iload_n hx hb dX12_tellWord_60 rfl (lv_at hl 1 rfl) ?_
    refine p_zald (v := (vp_nar .boolean zi87)) hx hb hK hw hW kd52 (by decide) rfl (hW.len kd52 (n := 32) rfl (by decide)) (vp_b bd27 (by decide) (by decide)) (hp_self eh91) dX12_tellWord_61 ?_
    have eq95 : hp90 qa900 11 = .int zi45 := Eq.trans (up_at eh91 (Or.inl (kd_ne kd900 kd52 (by decide)))) eq55
    have eq96 : hp90 qa900 13 = .int zi42 := Eq.trans (up_at eh91 (Or.inl (kd_ne kd900 kd52 (by decide)))) eq53
    have eq97 : hp90 qa900 12 = .int zi5 := Eq.trans (up_at eh91 (Or.inl (kd_ne kd900 kd52 (by decide)))) eq56
    have eq98 : hp90 qa900 28 = .ref qa11 := Eq.trans (up_at eh91 (Or.inl (kd_ne kd900 kd52 (by decide)))) eq57
    have eq99 : hp90 qa900 19 = .int zi14 := Eq.trans (up_at eh91 (Or.inl (kd_ne kd900 kd52 (by decide)))) eq58
    have eq100 : hp90 qa11 (zi14 : Int32).toNatClampNeg = .int zi17 := Eq.trans (up_at eh91 (Or.inl (kd_ne kd12 kd52 (by decide)))) eq59
    have jn131 : ∀ (hp118 : Nat → Nat → Value) (zi122 : Int32) (zi124 : Int32) (H : Heap) (locs : List Loc) (ls : Array Slot), Ok K hp118 → Fr [13011, 13013, 13014] K hp90 hp118 → ((0 : Int) ≤ zi122.toInt ∧ zi122.toInt ≤ 400) → hp118 qa900 11 = .int zi122 → ((0 : Int) ≤ zi124.toInt ∧ zi124.toInt ≤ 2) → hp118 qa900 13 = .int zi124 → (4*zi122.toInt + zi124.toInt ≥ 4*zi45.toInt + zi42.toInt) → (zi124.toInt ≥ zi42.toInt) → lv_has ls 2 [(0, .ref qa900), (1, .int zi25)] → PW G cy K ln Ls A hp118 H → va_S A s.heap H locs → W p l e ({ frames := 5, cells := 0, slots := 0, locals := 107 } : Room) s m ([.ref qa900] : List Value).toArray below meth c H locs 0 0 Q (F0 m 69 ls []) := by
      intro hp118 zi122 zi124 H locs ls ok120 F119 bd127 eq121 bd128 eq123 rq125 rq126 hl hw hS
      refine lv_aload_n hx hb dX12_tellWord_69 rfl (lv_at hl 0 rfl) ?_
      refine lv_iconst (v := 5) hx hb dX12_tellWord_70 (by decide) ?_
      refine kq_v hw hS hA (va_runV (As := [.int 5]) (rest := []) ⟨hx, hb, hml, hown, hT⟩ (cX12_must_0 l G cy ev K ln Ls hW _ hp118 ok120 qa900 5 kd900) (cwV 1 hT (good_V tb_1651 tb_1648 tb_1650 tb_59 tb_122) rfl rfl rfl (by decide +kernel) ⟨Nat.le_of_ble_eq_true rfl, Nat.le_of_ble_eq_true rfl⟩) (pool_preV (ci := 12) hK hE hS hA hw hW kd900 (by decide) rfl) rfl rfl hl.1 rfl (lv_room (Nat.le_of_ble_eq_true rfl)) dX12_tellWord_71 ⟨Nat.le_of_ble_eq_true rfl, Nat.le_of_ble_eq_true rfl⟩) (fun hp132 H locs hq135 hw hS => ?_)
      obtain ⟨ok133, F134, rh137, rh138, rh139⟩ := hq135
      have hw : PW G cy K ln Ls A hp132 H := hw
      obtain ⟨zi141, eq140, bd142⟩ := rd_13013 ok133 kd900
      obtain ⟨zi144, eq143, bd145⟩ := rd_13011 ok133 kd900
      simp only [gi_of eq121, gi_of eq123, gi_of eq140, gi_of eq143] at rh137
      simp only [gi_of eq123, gi_of eq140] at rh138
      simp only [gi_of eq121, gi_of eq140, gi_of eq143] at rh139
      refine lv_aload_n hx hb dX12_tellWord_74 rfl (lv_at hl 0 rfl) ?_
      obtain ⟨qa147, eq146, kd148⟩ := rd_13031 ok133 kd900
      refine p_get (ci := 12) (v := .ref qa147) (C := RX12) (T := TX12) (N := 69) hx hb hT iw_X12 hown hK hw hW kd900 (by decide) rfl rfl 31 (by decide) eq146 (hT _ tb_1405) (fun _ h9 => h9) dX12_tellWord_75 ?_
      refine lv_iload_n hx hb dX12_tellWord_78 rfl (lv_at hl 1 rfl) ?_
      refine lv_aload_n hx hb dX12_tellWord_79 rfl (lv_at hl 0 rfl) ?_
      have eq149 : hp132 qa900 12 = .int zi5 := Eq.trans (Fr.at (cq := 13012) F134 kd900 (cd_o (by decide)) (by decide)) (Eq.trans (Fr.at (cq := 13012) F119 kd900 (cd_o (by decide)) (by decide)) eq97)
      refine kq_l hw hS hA (va_runV (As := []) (rest := [.int zi25, .ref qa147]) ⟨hx, hb, hml, hown, hT⟩ (cX12_condition_0 l G cy ev K ln Ls hW _ hp132 ok133 qa900 kd900 (by simp only [gi_of eq140, gi_of eq149]; omega)) (cwV 0 hT (good_V tb_1675 tb_1672 tb_1674 tb_65 tb_122) rfl rfl rfl (by decide +kernel) ⟨Nat.le_of_ble_eq_true rfl, Nat.le_of_ble_eq_true rfl⟩) (pool_preV (ci := 12) hK hE hS hA hw hW kd900 (by decide) rfl) rfl rfl hl.1 rfl (lv_room (Nat.le_of_ble_eq_true rfl)) dX12_tellWord_80 ⟨Nat.le_of_ble_eq_true rfl, Nat.le_of_ble_eq_true rfl⟩) (fun wl154 hp150 H locs hq153 hw hS => ?_)
      obtain ⟨ok151, F152, rh155, rh156, rh157⟩ := hq153
      have hw : PW G cy K ln Ls A hp150 H := hw
      obtain ⟨zi159, eq158, bd160⟩ := rd_13013 ok151 kd900
      obtain ⟨zi162, eq161, bd163⟩ := rd_13011 ok151 kd900
      simp only [gi_of eq140, gi_of eq143, gi_of eq158, gi_of eq161] at rh155
      simp only [gi_of eq140, gi_of eq158] at rh156
      obtain ⟨zi165, eq164, bd166⟩ := rd_13012 ok151 kd900
      simp only [gi_of eq158, gi_of eq164] at rh157
      refine p_last (x := wl154) hx hb hK hw hS hW kd148 (by decide) rfl (hW.len kd148 (n := 32) rfl (by decide)) (vp_b bd27 (by decide) (by decide)) dX12_tellWord_83 (fun hp167 eh168 H locs hw hS => ?_)
      have ok169 := wr_77000 ok151 kd148 eh168
      refine lv_aload_n hx hb dX12_tellWord_84 rfl (lv_at hl 0 rfl) ?_
      refine lv_iconst (v := 4) hx hb dX12_tellWord_85 (by decide) ?_
      have eq170 : hp167 qa900 13 = .int zi159 := Eq.trans (up_at eh168 (Or.inl (kd_ne kd900 kd148 (by decide)))) eq158
      have eq171 : hp167 qa900 11 = .int zi162 := Eq.trans (up_at eh168 (Or.inl (kd_ne kd900 kd148 (by decide)))) eq161
      refine kq_v hw hS hA (va_runV (As := [.int 4]) (rest := []) ⟨hx, hb, hml, hown, hT⟩ (cX12_must_0 l G cy ev K ln Ls hW _ hp167 ok169 qa900 4 kd900) (cwV 1 hT (good_V tb_1651 tb_1648 tb_1650 tb_59 tb_122) rfl rfl rfl (by decide +kernel) ⟨Nat.le_of_ble_eq_true rfl, Nat.le_of_ble_eq_true rfl⟩) (pool_preV (ci := 12) hK hE hS hA hw hW kd900 (by decide) rfl) rfl rfl hl.1 rfl (lv_room (Nat.le_of_ble_eq_true rfl)) dX12_tellWord_86 ⟨Nat.le_of_ble_eq_true rfl, Nat.le_of_ble_eq_true rfl⟩) (fun hp172 H locs hq175 hw hS => ?_)
      obtain ⟨ok173, F174, rh177, rh178, rh179⟩ := hq175
      have hw : PW G cy K ln Ls A hp172 H := hw
      obtain ⟨zi181, eq180, bd182⟩ := rd_13013 ok173 kd900
      obtain ⟨zi184, eq183, bd185⟩ := rd_13011 ok173 kd900
      simp only [gi_of eq170, gi_of eq171, gi_of eq180, gi_of eq183] at rh177
      simp only [gi_of eq170, gi_of eq180] at rh178
      simp only [gi_of eq171, gi_of eq180, gi_of eq183] at rh179
      refine lv_aload_n hx hb dX12_tellWord_89 rfl (lv_at hl 0 rfl) ?_
      refine p_get (ci := 12) (v := .int zi181) (C := RX12) (T := TX12) (N := 69) hx hb hT iw_X12 hown hK hw hW kd900 (by decide) rfl rfl 13 (by decide) eq180 (hT _ tb_1387) (fun _ h9 => h9) dX12_tellWord_90 ?_
      have eq187 : hp172 qa900 12 = .int zi165 := Eq.trans (Fr.at (cq := 13012) F174 kd900 (cd_o (by decide)) (by decide)) (Eq.trans (up_at eh168 (Or.inl (kd_ne kd900 kd148 (by decide)))) eq164)
      have eq188 : hp172 qa900 28 = .ref qa11 := Eq.trans (Fr.at (cq := 13028) F174 kd900 (cd_o (by decide)) (by decide)) (Eq.trans (up_at eh168 (Or.inl (kd_ne kd900 kd148 (by decide)))) (Eq.trans (Fr.at (cq := 13028) F152 kd900 (cd_o (by decide)) (by decide)) (Eq.trans (Fr.at (cq := 13028) F134 kd900 (cd_o (by decide)) (by decide)) (Eq.trans (Fr.at (cq := 13028) F119 kd900 (cd_o (by decide)) (by decide)) eq98))))
      have eq189 : hp172 qa900 19 = .int zi14 := Eq.trans (Fr.at (cq := 13019) F174 kd900 (cd_o (by decide)) (by decide)) (Eq.trans (up_at eh168 (Or.inl (kd_ne kd900 kd148 (by decide)))) (Eq.trans (Fr.at (cq := 13019) F152 kd900 (cd_o (by decide)) (by decide)) (Eq.trans (Fr.at (cq := 13019) F134 kd900 (cd_o (by decide)) (by decide)) (Eq.trans (Fr.at (cq := 13019) F119 kd900 (cd_o (by decide)) (by decide)) eq99))))
      have eq190 : hp172 qa11 (zi14 : Int32).toNatClampNeg = .int zi17 := Eq.trans (Fr.at (cq := 74000) F174 kd12 (cd_a (by decide)) (by decide)) (Eq.trans (up_at eh168 (Or.inl (kd_ne kd12 kd148 (by decide)))) (Eq.trans (Fr.at (cq := 74000) F152 kd12 (cd_a (by decide)) (by decide)) (Eq.trans (Fr.at (cq := 74000) F134 kd12 (cd_a (by decide)) (by decide)) (Eq.trans (Fr.at (cq := 74000) F119 kd12 (cd_a (by decide)) (by decide)) eq100))))
      refine lv_if_ne (tgt := 109) hx hb dX12_tellWord_93 (by decide) (fun cn186 => ?_) (fun cn186 => ?_)
      · skip
        have tf191 : (zi181 : Int32).toInt ≠ (0 : Int32).toInt := fun e => cn186 (Int32.toInt_inj.mp e)
        have := toi bc_0
        have bd192 : (1 : Int) ≤ zi181.toInt ∧ zi181.toInt ≤ 2 := r_ne_lo cn186 bd182 (toi bc_0) (by decide) (by decide)
        rw [hQ]
        exact kz_v hx hb hr hlocks hS hp172 hw ⟨ok173, (Fr.tr (Fr.put (cq := 77000) (Fr.tr (Fr.tr (Fr.tr (Fr.put (cq := 76000) (Fr.put (cq := 75000) (Fr.tr (Fr.rf) F34 (by decide)) eh48 kd31 (cd_a (by decide)) (by decide)) eh91 kd52 (cd_a (by decide)) (by decide)) F119 (by decide)) F134 (by decide)) F152 (by decide)) eh168 kd148 (cd_a (by decide)) (by decide)) F174 (by decide)), (by simp only [gi_of eq1, gi_of eq180, gi_of eq183, gi_of eq7]; omega), (by simp only [gi_of eq1, gi_of eq180]; omega), (by simp only [gi_of eq180, gi_of eq187]; omega)⟩ (Nat.le_of_ble_eq_true rfl) (Nat.le_of_ble_eq_true rfl) dX12_tellWord_109
      · skip
        have bd193 : (0 : Int) ≤ zi181.toInt ∧ zi181.toInt ≤ 0 := r_eq_x cn186 bd182 bc_0 (by decide) (by decide)
        refine lv_aload_n hx hb dX12_tellWord_96 rfl (lv_at hl 0 rfl) ?_
        refine p_get (ci := 12) (v := .ref qa11) (C := RX12) (T := TX12) (N := 69) hx hb hT iw_X12 hown hK hw hW kd900 (by decide) rfl rfl 28 (by decide) eq188 (hT _ tb_1402) (fun _ h9 => h9) dX12_tellWord_97 ?_
        refine lv_aload_n hx hb dX12_tellWord_100 rfl (lv_at hl 0 rfl) ?_
        refine p_get (ci := 12) (v := .int zi14) (C := RX12) (T := TX12) (N := 69) hx hb hT iw_X12 hown hK hw hW kd900 (by decide) rfl rfl 19 (by decide) eq189 (hT _ tb_1393) (fun _ h9 => h9) dX12_tellWord_101 ?_
        refine lv_dup2_11 hx hb dX12_tellWord_104 rfl rfl ?_
        refine p_iald (v := zi17) hx hb hK hw hW kd12 (by decide) rfl (hW.len kd12 (n := 2) rfl (by decide)) (vp_b bd15 (by decide) (by decide)) eq190 dX12_tellWord_105 ?_
        refine lv_iconst (v := 1) hx hb dX12_tellWord_106 (by decide) ?_
        refine lv_iadd hx hb dX12_tellWord_107 (lv_topi (fun zi194 ea195 => ?_))
        have bd196 : (1 : Int) ≤ zi194.toInt ∧ zi194.toInt ≤ 16 := b_iadd ea195 bd19 bc_1 (by decide) (by decide) (by decide) (by decide)
        have qe197 : zi194.toInt = (zi17 : Int32).toInt + (1 : Int32).toInt := e_iadd ea195 bd19 bc_1 (by decide) (by decide)
        have qe198 : zi194.toInt = zi17.toInt + 1 := by have ha : (1 : Int32).toInt = 1 := (by decide); rw [ha] at qe197; exact qe197
        refine p_iast (x := zi194) hx hb hK hw hS hW kd12 (by decide) rfl (hW.len kd12 (n := 2) rfl (by decide)) (vp_b bd15 (by decide) (by decide)) dX12_tellWord_108 (fun hp199 eh200 H locs hw hS => ?_)
        have ok201 := wr_74000 bd196 (by decide) (by decide) ok173 kd12 eh200
        have eq202 : hp199 qa900 13 = .int zi181 := Eq.trans (up_at eh200 (Or.inl (kd_ne kd900 kd12 (by decide)))) eq180
        have eq203 : hp199 qa900 11 = .int zi184 := Eq.trans (up_at eh200 (Or.inl (kd_ne kd900 kd12 (by decide)))) eq183
        have eq204 : hp199 qa900 12 = .int zi165 := Eq.trans (up_at eh200 (Or.inl (kd_ne kd900 kd12 (by decide)))) eq187
        rw [hQ]
        exact kz_v hx hb hr hlocks hS hp199 hw ⟨ok201, (Fr.put (cq := 74000) (Fr.tr (Fr.put (cq := 77000) (Fr.tr (Fr.tr (Fr.tr (Fr.put (cq := 76000) (Fr.put (cq := 75000) (Fr.tr (Fr.rf) F34 (by decide)) eh48 kd31 (cd_a (by decide)) (by decide)) eh91 kd52 (cd_a (by decide)) (by decide)) F119 (by decide)) F134 (by decide)) F152 (by decide)) eh168 kd148 (cd_a (by decide)) (by decide)) F174 (by decide)) eh200 kd12 (cd_a (by decide)) (by decide)), (by simp only [gi_of eq1, gi_of eq202, gi_of eq203, gi_of eq7]; omega), (by simp only [gi_of eq1, gi_of eq202]; omega), (by simp only [gi_of eq202, gi_of eq204]; omega)⟩ (Nat.le_of_ble_eq_true rfl) (Nat.le_of_ble_eq_true rfl) dX12_tellWord_109
    refine lv_if_eq (tgt := 69) hx hb dX12_tellWord_62 (by decide) (fun cn94 => ?_) (fun cn94 => ?_)
    · skip
      have bd205 : (0 : Int) ≤ (vp_nar .boolean zi87).toInt ∧ (vp_nar .boolean zi87).toInt ≤ 0 := r_eq_x cn94 (nar_z zi87) bc_0 (by decide) (by decide)
      exact jn131 hp90 zi45 zi42 _ _ ls ok92 (Fr.rf) (b_wid2 bd46 (by decide) (by decide)) eq95 (b_wid2 bd43 (by decide) (by decide)) eq96 (by omega) (by omega) (lv_sub hl [0, 1] rfl) hw hS
    · skip
      have tf206 : ((vp_nar .boolean zi87) : Int32).toInt ≠ (0 : Int32).toInt := fun e => cn94 (Int32.toInt_inj.mp e)
      have := toi bc_0
      have bd207 : (1 : Int) ≤ (vp_nar .boolean zi87).toInt ∧ (vp_nar .boolean zi87).toInt ≤ 1 := r_ne_lo cn94 (nar_z zi87) (toi bc_0) (by decide) (by decide)
      refine lv_aload_n hx hb dX12_tellWord_65 rfl (lv_at hl 0 rfl) ?_
      refine kq_v hw hS hA (va_runV (As := []) (rest := []) ⟨hx, hb, hml, hown, hT⟩ (cX12_goesOn_0 l G cy ev K ln Ls hW _ hp90 ok92 qa900 kd900) (cwV 0 hT (good_V tb_1639 tb_1636 tb_1638 tb_56 tb_122) rfl rfl rfl (by decide +kernel) ⟨Nat.le_of_ble_eq_true rfl, Nat.le_of_ble_eq_true rfl⟩) (pool_preV (ci := 12) hK hE hS hA hw hW kd900 (by decide) rfl) rfl rfl hl.1 rfl (lv_room (Nat.le_of_ble_eq_true rfl)) dX12_tellWord_66 ⟨Nat.le_of_ble_eq_true rfl, Nat.le_of_ble_eq_true rfl⟩) (fun hp208 H locs hq211 hw hS => ?_)
      obtain ⟨ok209, F210, ⟨zi213, eq214, bd215⟩, rh216, rh217, rh218⟩ := hq211
      have hw : PW G cy K ln Ls A hp208 H := hw
      obtain ⟨zi220, eq219, bd221⟩ := rd_13013 ok209 kd900
      simp only [gi_of eq214, gi_of eq219, gi_of eq95, gi_of eq96] at rh216
      simp only [gi_of eq219, gi_of eq96] at rh217
      simp only [gi_of eq214, gi_of eq219, gi_of eq95] at rh218
      have eq222 : hp208 qa900 12 = .int zi5 := Eq.trans (Fr.at (cq := 13012) F210 kd900 (cd_o (by decide)) (by decide)) eq97
      have eq223 : hp208 qa900 28 = .ref qa11 := Eq.trans (Fr.at (cq := 13028) F210 kd900 (cd_o (by decide)) (by decide)) eq98
      have eq224 : hp208 qa900 19 = .int zi14 := Eq.trans (Fr.at (cq := 13019) F210 kd900 (cd_o (by decide)) (by decide)) eq99
      have eq225 : hp208 qa11 (zi14 : Int32).toNatClampNeg = .int zi17 := Eq.trans (Fr.at (cq := 74000) F210 kd12 (cd_a (by decide)) (by decide)) eq100
      exact jn131 hp208 zi213 zi220 _ _ ls ok209 (Fr.tr (Fr.rf) F210 (by decide)) (b_wid2 bd215 (by decide) (by decide)) eq214 (b_wid2 bd221 (by decide) (by decide)) eq219 (by omega) (by omega) (lv_sub hl [0, 1] rfl) hw hS
  refine lv_if_ne (tgt := 54) hx hb dX12_tellWord_38 (by decide) (fun cn54 => ?_) (fun cn54 => ?_)
  · skip
    have tf226 : (zi42 : Int32).toInt ≠ (0 : Int32).toInt := fun e => cn54 (Int32.toInt_inj.mp e)
    have := toi bc_0
    have bd227 : (1 : Int) ≤ zi42.toInt ∧ zi42.toInt ≤ 2 := r_ne_lo cn54 bd43 (toi bc_0) (by decide) (by decide)
    refine lv_iconst (v := 0) hx hb dX12_tellWord_54 (by decide) ?_
    exact jn89 0 _ _ ls (b_wid2 bc_0 (by decide) (by decide)) (lv_sub hl [1, 0] rfl) hw hS
  · skip
    have bd228 : (0 : Int) ≤ zi42.toInt ∧ zi42.toInt ≤ 0 := r_eq_x cn54 bd43 bc_0 (by decide) (by decide)
    refine lv_aload_n hx hb dX12_tellWord_41 rfl (lv_at hl 1 rfl) ?_
    refine lv_bipush (v := 26) hx hb dX12_tellWord_42 (by decide) ?_
    obtain ⟨qa230, eq229, kd231⟩ := rd_13005 ok49 kd900
    obtain ⟨zi233, eq232⟩ := rd_62000 ok49 kd231 ((zi45 : Int32).toNatClampNeg)
    refine kq_i hw hS hA (va_runV (As := [.int 26]) (rest := [.int zi25, .ref qa51]) ⟨hx, hb, hml, hown, hT⟩ (cX12_is_0 l G cy ev K ln Ls hW _ hp47 ok49 qa900 26 kd900) (cwV 1 hT (good_V tb_1623 tb_1620 tb_1622 tb_52 tb_122) rfl rfl rfl (by decide +kernel) ⟨Nat.le_of_ble_eq_true rfl, Nat.le_of_ble_eq_true rfl⟩) (pool_preV (ci := 12) hK hE hS hA hw hW kd900 (by decide) rfl) rfl rfl hl.1 rfl (lv_room (Nat.le_of_ble_eq_true rfl)) dX12_tellWord_44 ⟨Nat.le_of_ble_eq_true rfl, Nat.le_of_ble_eq_true rfl⟩) (fun zi238 hp234 H locs hq237 hw hS => ?_)
    obtain ⟨ok235, F236, bd239, hc240, rh241, rh242, rh243⟩ := hq237
    obtain rfl : hp47 = hp234 := (Fr.nil F236).symm
    have hw : PW G cy K ln Ls A hp47 H := hw
    rcases b01 bd239 with cn244 | cn244
    · skip
      subst cn244
      have rh245 := rh243 rfl
      simp only [ge_of eq229 eq55 eq232, gi_of eq53, toi bc_26] at rh245
      refine lv_if_eq (tgt := 54) hx hb dX12_tellWord_47 (by decide) (fun _ => ?_) (fun c => absurd (d_eq bc_0 bc_0) c)
      refine lv_iconst (v := 0) hx hb dX12_tellWord_54 (by decide) ?_
      exact jn89 0 _ _ ls (b_wid2 bc_0 (by decide) (by decide)) (lv_sub hl [1, 0] rfl) hw hS
    · skip
      subst cn244
      obtain ⟨zi246, eq247, bd248⟩ := hc240 rfl
      have hx249 : zi42 = zi246 := Value.int.inj (Eq.trans (Eq.symm eq53) eq247)
      subst hx249
      have bd250 : (0 : Int) ≤ zi42.toInt ∧ zi42.toInt ≤ 0 := b_meet bd228 bd248 (by decide) (by decide)
      have rh251 := rh241 rfl
      simp only [ge_of eq229 eq55 eq232, toi bc_26] at rh251
      have rh252 := rh242 rfl
      simp only [gi_of eq53] at rh252
      refine lv_if_eq (tgt := 54) hx hb dX12_tellWord_47 (by decide) (fun c => absurd c (d_ne bc_1 bc_0 (by decide))) (fun _ => ?_)
      refine lv_iconst (v := 1) hx hb dX12_tellWord_50 (by decide) ?_
      refine lv_goto (tgt := 55) hx hb dX12_tellWord_51 (by decide) ?_
      exact jn89 1 _ _ ls (b_wid2 bc_1 (by decide) (by decide)) (lv_sub hl [1, 0] rfl) hw hS

set_option maxRecDepth 100000 in
set_option maxHeartbeats 4000000 in
theorem cX12_roomFor_2 (l : Launch) (G : va_G) (cy : Nat → ClassId) (ev : Ew) (K ln : Nat → Nat) (Ls : List Nat) (hW : SW K ln Ls) (sz : Nat) (hp0 : Nat → Nat → Value) (ok0 : Ok K hp0) (qa900 : Nat) (zi901 : Int32) (zi902 : Int32) (kd900 : K qa900 = 13) (bd901 : ((0 : Int) ≤ zi901.toInt ∧ zi901.toInt ≤ 8)) (bd902 : ((8 : Int) ≤ zi902.toInt ∧ zi902.toInt ≤ 8)) : Met l yX12_roomFor (WS yX12_roomFor cX12_roomFor 3 none) { frames := 2, cells := 0, slots := 0, locals := 41 } (PB2 [.ref qa900, .int zi901, .int zi902] sz G cy ev (va_pl Ls (cellOf cy K ln hp0))) (QBv (S := (Nat → Nat → Value)) (fun u : (Nat → Nat → Value) => Ok K u ∧ Fr [13011, 13013, 13014] K hp0 u ∧ (4*(gi u qa900 11) + (gi u qa900 13) ≥ 4*(gi hp0 qa900 11) + (gi hp0 qa900 13)) ∧ ((gi u qa900 13) ≥ (gi hp0 qa900 13)) ∧ (4*(gi u qa900 11) + (gi u qa900 13) ≥ 4*(gi hp0 qa900 11) + 1) ∧ ((zi901 : Int32).toInt ≤ (zi902 : Int32).toInt - 1 + (gi u qa900 13))) G (fun u => va_pl Ls (cellOf cy K ln u)) (va_A (va_pl Ls (cellOf cy K ln hp0)) sz)) 0 0 (va_A (va_pl Ls (cellOf cy K ln hp0)) sz) := by
  refine met_of2 (y := yX12_roomFor) (L := 3) (av := [.ref qa900, .int zi901, .int zi902]) (Qc := fun A => QBv (S := (Nat → Nat → Value)) (fun u : (Nat → Nat → Value) => Ok K u ∧ Fr [13011, 13013, 13014] K hp0 u ∧ (4*(gi u qa900 11) + (gi u qa900 13) ≥ 4*(gi hp0 qa900 11) + (gi hp0 qa900 13)) ∧ ((gi u qa900 13) ≥ (gi hp0 qa900 13)) ∧ (4*(gi u qa900 11) + (gi u qa900 13) ≥ 4*(gi hp0 qa900 11) + 1) ∧ ((zi901 : Int32).toInt ≤ (zi902 : Int32).toInt - 1 + (gi u qa900 13))) G (fun u => va_pl Ls (cellOf cy K ln u)) A) (plainFor_of_name (by decide)) (Nat.le_of_ble_eq_true rfl) ?_
  intro p e s m below meth c hsz hx hb hr hml hown hT hlocks hin hK A hA hE hw hS ls hl
  have hw : PW G cy K ln Ls A hp0 s.heap := hw
  have hown : s.vm.findClass "LieClockModel" = some m.cls := hown
  have hl : lv_has ls 3 [(0, .ref qa900), (1, .int zi901), (2, .int zi902)] := hl
  obtain ⟨Q, hQ⟩ : ∃ Q : State → Prop, Q = MQ below (QBv (S := (Nat → Nat → Value)) (fun u : (Nat → Nat → Value) => Ok K u ∧ Fr [13011, 13013, 13014] K hp0 u ∧ (4*(gi u qa900 11) + (gi u qa900 13) ≥ 4*(gi hp0 qa900 11) + (gi hp0 qa900 13)) ∧ ((gi u qa900 13) ≥ (gi hp0 qa900 13)) ∧ (4*(gi u qa900 11) + (gi u qa900 13) ≥ 4*(gi hp0 qa900 11) + 1) ∧ ((zi901 : Int32).toInt ≤ (zi902 : Int32).toInt - 1 + (gi u qa900 13))) G (fun u => va_pl Ls (cellOf cy K ln u)) A) ([.ref qa900, .int zi901, .int zi902] : List Value).toArray s 0 0 A := ⟨_, rfl⟩
  rw [← hQ]
  obtain ⟨zi2, eq1, bd3⟩ := rd_13013 ok0 kd900
  obtain ⟨zi5, eq4, bd6⟩ := rd_13011 ok0 kd900
  refine lv_iload_n hx hb dX12_roomFor_0 rfl (lv_at hl 1 rfl) ?_
  refine lv_iload_n hx hb dX12_roomFor_1 rfl (lv_at hl 2 rfl) ?_
  have jn30 : ∀ (hp21 : Nat → Nat → Value) (zi25 : Int32) (H : Heap) (locs : List Loc) (ls : Array Slot), Ok K hp21 → Fr [13013, 13014] K hp0 hp21 → ((0 : Int) ≤ zi25.toInt ∧ zi25.toInt ≤ 2) → hp21 qa900 13 = .int zi25 → (4*zi5.toInt + zi25.toInt ≥ 4*zi5.toInt + zi2.toInt) → (zi25.toInt ≥ zi2.toInt) → (zi901.toInt ≤ zi902.toInt - 1 + zi25.toInt) → lv_has ls 3 [(0, .ref qa900)] → PW G cy K ln Ls A hp21 H → va_S A s.heap H locs → W p l e ({ frames := 2, cells := 0, slots := 0, locals := 41 } : Room) s m ([.ref qa900, .int zi901, .int zi902] : List Value).toArray below meth c H locs 0 0 Q (F0 m 10 ls []) := by
    intro hp21 zi25 H locs ls ok23 F22 bd29 eq24 rq26 rq27 rq28 hl hw hS
    refine lv_aload_n hx hb dX12_roomFor_10 rfl (lv_at hl 0 rfl) ?_
    refine p_get (ci := 12) (v := .int zi25) (C := RX12) (T := TX12) (N := 69) hx hb hT iw_X12 hown hK hw hW kd900 (by decide) rfl rfl 13 (by decide) eq24 (hT _ tb_1387) (fun _ h9 => h9) dX12_roomFor_11 ?_
    have eq32 : hp21 qa900 11 = .int zi5 := Eq.trans (Fr.at (cq := 13011) F22 kd900 (cd_o (by decide)) (by decide)) eq4
    refine lv_if_ne (tgt := 21) hx hb dX12_roomFor_14 (by decide) (fun cn31 => ?_) (fun cn31 => ?_)
    · skip
      have tf33 : (zi25 : Int32).toInt ≠ (0 : Int32).toInt := fun e => cn31 (Int32.toInt_inj.mp e)
      have := toi bc_0
      have bd34 : (1 : Int) ≤ zi25.toInt ∧ zi25.toInt ≤ 2 := r_ne_lo cn31 bd29 (toi bc_0) (by decide) (by decide)
      rw [hQ]
      exact kz_v hx hb hr hlocks hS hp21 hw ⟨ok23, (Fr.tr (Fr.rf) F22 (by decide)), (by simp only [gi_of eq1, gi_of eq24, gi_of eq32, gi_of eq4]; omega), (by simp only [gi_of eq1, gi_of eq24]; omega), (by simp only [gi_of eq24, gi_of eq32, gi_of eq4]; omega), (by simp only [gi_of eq24]; omega)⟩ (Nat.le_of_ble_eq_true rfl) (Nat.le_of_ble_eq_true rfl) dX12_roomFor_21
    · skip
      have bd35 : (0 : Int) ≤ zi25.toInt ∧ zi25.toInt ≤ 0 := r_eq_x cn31 bd29 bc_0 (by decide) (by decide)
      refine lv_aload_n hx hb dX12_roomFor_17 rfl (lv_at hl 0 rfl) ?_
      refine kq_v hw hS hA (va_runV (As := []) (rest := []) ⟨hx, hb, hml, hown, hT⟩ (cX12_goesOn_0 l G cy ev K ln Ls hW _ hp21 ok23 qa900 kd900) (cwV 0 hT (good_V tb_1639 tb_1636 tb_1638 tb_56 tb_122) rfl rfl rfl (by decide +kernel) ⟨Nat.le_of_ble_eq_true rfl, Nat.le_of_ble_eq_true rfl⟩) (pool_preV (ci := 12) hK hE hS hA hw hW kd900 (by decide) rfl) rfl rfl hl.1 rfl (lv_room (Nat.le_of_ble_eq_true rfl)) dX12_roomFor_18 ⟨Nat.le_of_ble_eq_true rfl, Nat.le_of_ble_eq_true rfl⟩) (fun hp36 H locs hq39 hw hS => ?_)
      obtain ⟨ok37, F38, ⟨zi41, eq42, bd43⟩, rh44, rh45, rh46⟩ := hq39
      have hw : PW G cy K ln Ls A hp36 H := hw
      obtain ⟨zi48, eq47, bd49⟩ := rd_13013 ok37 kd900
      simp only [gi_of eq24, gi_of eq32, gi_of eq42, gi_of eq47] at rh44
      simp only [gi_of eq24, gi_of eq47] at rh45
      simp only [gi_of eq32, gi_of eq42, gi_of eq47] at rh46
      rw [hQ]
      exact kz_v hx hb hr hlocks hS hp36 hw ⟨ok37, (Fr.tr (Fr.tr (Fr.rf) F22 (by decide)) F38 (by decide)), (by simp only [gi_of eq1, gi_of eq4, gi_of eq42, gi_of eq47]; omega), (by simp only [gi_of eq1, gi_of eq47]; omega), (by simp only [gi_of eq4, gi_of eq42, gi_of eq47]; omega), (by simp only [gi_of eq47]; omega)⟩ (Nat.le_of_ble_eq_true rfl) (Nat.le_of_ble_eq_true rfl) dX12_roomFor_21
  refine lv_icmp_ne (tgt := 10) hx hb dX12_roomFor_2 (by decide) (fun cn7 => ?_) (fun cn7 => ?_)
  · skip
    have tf50 : (zi901 : Int32).toInt ≠ (zi902 : Int32).toInt := fun e => cn7 (Int32.toInt_inj.mp e)
    have bd51 : (0 : Int) ≤ zi901.toInt ∧ zi901.toInt ≤ 7 := r_ne_hi cn7 bd901 (toi bd902) (by decide) (by decide)
    exact jn30 hp0 zi2 _ _ ls ok0 (Fr.rf) (b_wid2 bd3 (by decide) (by decide)) eq1 (by omega) (by omega) (by omega) (lv_sub hl [0] rfl) hw hS
  · skip
    have tf52 : zi901.toInt = zi902.toInt := congrArg Int32.toInt cn7
    have bd53 : (8 : Int) ≤ zi901.toInt ∧ zi901.toInt ≤ 8 := r_eq_x cn7 bd901 bd902 (by decide) (by decide)
    refine lv_aload_n hx hb dX12_roomFor_5 rfl (lv_at hl 0 rfl) ?_
    refine lv_iconst (v := 2) hx hb dX12_roomFor_6 (by decide) ?_
    refine kq_v hw hS hA (va_runV (As := [.int 2]) (rest := []) ⟨hx, hb, hml, hown, hT⟩ (cX12_fail_0 l G cy ev K ln Ls hW _ hp0 ok0 qa900 2 kd900 (b_wid2 bc_2 (by decide) (by decide))) (cwV 1 hT (good_V tb_1635 tb_1632 tb_1634 tb_55 tb_122) rfl rfl rfl (by decide +kernel) ⟨Nat.le_of_ble_eq_true rfl, Nat.le_of_ble_eq_true rfl⟩) (pool_preV (ci := 12) hK hE hS hA hw hW kd900 (by decide) rfl) rfl rfl hl.1 rfl (lv_room (Nat.le_of_ble_eq_true rfl)) dX12_roomFor_7 ⟨Nat.le_of_ble_eq_true rfl, Nat.le_of_ble_eq_true rfl⟩) (fun hp54 H locs hq57 hw hS => ?_)
    obtain ⟨ok55, F56, ⟨zi59, eq60, bd61⟩, rh62⟩ := hq57
    have hw : PW G cy K ln Ls A hp54 H := hw
    simp only [gi_of eq1, gi_of eq60] at rh62
    have eq63 : hp54 qa900 11 = .int zi5 := Eq.trans (Fr.at (cq := 13011) F56 kd900 (cd_o (by decide)) (by decide)) eq4
    exact jn30 hp54 zi59 _ _ ls ok55 (Fr.tr (Fr.rf) F56 (by decide)) (b_wid2 bd61 (by decide) (by decide)) eq60 (by omega) (by omega) (by omega) (lv_sub hl [0] rfl) hw hS

set_option maxRecDepth 100000 in
set_option maxHeartbeats 4000000 in
theorem cX12_bounded_0 (l : Launch) (G : va_G) (cy : Nat → ClassId) (ev : Ew) (K ln : Nat → Nat) (Ls : List Nat) (hW : SW K ln Ls) (sz : Nat) (hp0 : Nat → Nat → Value) (ok0 : Ok K hp0) (qa900 : Nat) (zi901 : Int32) (zi902 : Int32) (kd900 : K qa900 = 13) : Met l yX12_bounded (WS yX12_bounded cX12_bounded 4 (some .int)) { frames := 2, cells := 0, slots := 0, locals := 41 } (PB2 [.ref qa900, .int zi901, .int zi902] sz G cy ev (va_pl Ls (cellOf cy K ln hp0))) (QBi (S := (Nat → Nat → Value)) (fun (r : Int32) (u : (Nat → Nat → Value)) => Ok K u ∧ Fr [13011, 13013, 13014, 13015, 13016] K hp0 u ∧ (4*(gi u qa900 11) + (gi u qa900 13) ≥ 4*(gi hp0 qa900 11) + (gi hp0 qa900 13)) ∧ ((gi u qa900 13) ≥ (gi hp0 qa900 13)) ∧ (4*(gi u qa900 11) + (gi u qa900 13) ≥ 4*(gi hp0 qa900 11) + 1)) G (fun u => va_pl Ls (cellOf cy K ln u)) (va_A (va_pl Ls (cellOf cy K ln hp0)) sz)) 0 0 (va_A (va_pl Ls (cellOf cy K ln hp0)) sz) := by
  refine met_of2 (y := yX12_bounded) (L := 4) (av := [.ref qa900, .int zi901, .int zi902]) (Qc := fun A => QBi (S := (Nat → Nat → Value)) (fun (r : Int32) (u : (Nat → Nat → Value)) => Ok K u ∧ Fr [13011, 13013, 13014, 13015, 13016] K hp0 u ∧ (4*(gi u qa900 11) + (gi u qa900 13) ≥ 4*(gi hp0 qa900 11) + (gi hp0 qa900 13)) ∧ ((gi u qa900 13) ≥ (gi hp0 qa900 13)) ∧ (4*(gi u qa900 11) + (gi u qa900 13) ≥ 4*(gi hp0 qa900 11) + 1)) G (fun u => va_pl Ls (cellOf cy K ln u)) A) (plainFor_of_name (by decide)) (Nat.le_of_ble_eq_true rfl) ?_
  intro p e s m below meth c hsz hx hb hr hml hown hT hlocks hin hK A hA hE hw hS ls hl
  have hw : PW G cy K ln Ls A hp0 s.heap := hw
  have hown : s.vm.findClass "LieClockModel" = some m.cls := hown
  have hl : lv_has ls 4 [(0, .ref qa900), (1, .int zi901), (2, .int zi902)] := hl
  obtain ⟨Q, hQ⟩ : ∃ Q : State → Prop, Q = MQ below (QBi (S := (Nat → Nat → Value)) (fun (r : Int32) (u : (Nat → Nat → Value)) => Ok K u ∧ Fr [13011, 13013, 13014, 13015, 13016] K hp0 u ∧ (4*(gi u qa900 11) + (gi u qa900 13) ≥ 4*(gi hp0 qa900 11) + (gi hp0 qa900 13)) ∧ ((gi u qa900 13) ≥ (gi hp0 qa900 13)) ∧ (4*(gi u qa900 11) + (gi u qa900 13) ≥ 4*(gi hp0 qa900 11) + 1)) G (fun u => va_pl Ls (cellOf cy K ln u)) A) ([.ref qa900, .int zi901, .int zi902] : List Value).toArray s 0 0 A := ⟨_, rfl⟩
  rw [← hQ]
  obtain ⟨zi2, eq1, bd3⟩ := rd_13013 ok0 kd900
  obtain ⟨zi5, eq4, bd6⟩ := rd_13011 ok0 kd900
  refine lv_aload_n hx hb dX12_bounded_0 rfl (lv_at hl 0 rfl) ?_
  refine p_get (ci := 12) (v := .int zi2) (C := RX12) (T := TX12) (N := 69) hx hb hT iw_X12 hown hK hw hW kd900 (by decide) rfl rfl 13 (by decide) eq1 (hT _ tb_1387) (fun _ h9 => h9) dX12_bounded_1 ?_
  refine lv_if_gt (tgt := 15) hx hb dX12_bounded_4 (by decide) (fun cn7 => ?_) (fun cn7 => ?_)
  · skip
    have bd8 : (1 : Int) ≤ zi2.toInt ∧ zi2.toInt ≤ 2 := r_lt_y cn7 bc_0 bd3 (by decide) (by decide)
    refine lv_aload_n hx hb dX12_bounded_15 rfl (lv_at hl 0 rfl) ?_
    refine lv_iconst (v := 1) hx hb dX12_bounded_16 (by decide) ?_
    refine kq_v hw hS hA (va_runV (As := [.int 1]) (rest := []) ⟨hx, hb, hml, hown, hT⟩ (cX12_fail_0 l G cy ev K ln Ls hW _ hp0 ok0 qa900 1 kd900 (b_wid2 bc_1 (by decide) (by decide))) (cwV 1 hT (good_V tb_1635 tb_1632 tb_1634 tb_55 tb_122) rfl rfl rfl (by decide +kernel) ⟨Nat.le_of_ble_eq_true rfl, Nat.le_of_ble_eq_true rfl⟩) (pool_preV (ci := 12) hK hE hS hA hw hW kd900 (by decide) rfl) rfl rfl hl.1 rfl (lv_room (Nat.le_of_ble_eq_true rfl)) dX12_bounded_17 ⟨Nat.le_of_ble_eq_true rfl, Nat.le_of_ble_eq_true rfl⟩) (fun hp9 H locs hq12 hw hS => ?_)
    obtain ⟨ok10, F11, ⟨zi14, eq15, bd16⟩, rh17⟩ := hq12
    have hw : PW G cy K ln Ls A hp9 H := hw
    simp only [gi_of eq1, gi_of eq15] at rh17
    refine lv_iload_n hx hb dX12_bounded_20 rfl (lv_at hl 1 rfl) ?_
    have eq18 : hp9 qa900 11 = .int zi5 := Eq.trans (Fr.at (cq := 13011) F11 kd900 (cd_o (by decide)) (by decide)) eq4
    rw [hQ]
    exact kz_i hx hb hr hlocks hS rfl hp9 hw ⟨ok10, (Fr.tr (Fr.rf) F11 (by decide)), (by simp only [gi_of eq1, gi_of eq15, gi_of eq18, gi_of eq4]; omega), (by simp only [gi_of eq1, gi_of eq15]; omega), (by simp only [gi_of eq15, gi_of eq18, gi_of eq4]; omega)⟩ (Nat.le_of_ble_eq_true rfl) (Nat.le_of_ble_eq_true rfl) dX12_bounded_21
  · skip
    have bd19 : (0 : Int) ≤ zi2.toInt ∧ zi2.toInt ≤ 0 := r_le_x (Int32.not_lt.mp cn7) bd3 bc_0 (by decide) (by decide)
    refine lv_aload_n hx hb dX12_bounded_7 rfl (lv_at hl 0 rfl) ?_
    refine lv_iconst (v := 2) hx hb dX12_bounded_8 (by decide) ?_
    obtain ⟨qa21, eq20, kd22⟩ := rd_13005 ok0 kd900
    obtain ⟨zi24, eq23⟩ := rd_62000 ok0 kd22 ((zi5 : Int32).toNatClampNeg)
    refine kq_i hw hS hA (va_runV (As := [.int 2]) (rest := []) ⟨hx, hb, hml, hown, hT⟩ (cX12_is_0 l G cy ev K ln Ls hW _ hp0 ok0 qa900 2 kd900) (cwV 1 hT (good_V tb_1623 tb_1620 tb_1622 tb_52 tb_122) rfl rfl rfl (by decide +kernel) ⟨Nat.le_of_ble_eq_true rfl, Nat.le_of_ble_eq_true rfl⟩) (pool_preV (ci := 12) hK hE hS hA hw hW kd900 (by decide) rfl) rfl rfl hl.1 rfl (lv_room (Nat.le_of_ble_eq_true rfl)) dX12_bounded_9 ⟨Nat.le_of_ble_eq_true rfl, Nat.le_of_ble_eq_true rfl⟩) (fun zi29 hp25 H locs hq28 hw hS => ?_)
    obtain ⟨ok26, F27, bd30, hc31, rh32, rh33, rh34⟩ := hq28
    obtain rfl : hp0 = hp25 := (Fr.nil F27).symm
    have hw : PW G cy K ln Ls A hp0 H := hw
    rcases b01 bd30 with cn35 | cn35
    · skip
      subst cn35
      have rh36 := rh34 rfl
      simp only [ge_of eq20 eq4 eq23, gi_of eq1, toi bc_2] at rh36
      refine lv_if_ne (tgt := 22) hx hb dX12_bounded_12 (by decide) (fun c => absurd (d_eq bc_0 bc_0) c) (fun _ => ?_)
      refine lv_aload_n hx hb dX12_bounded_15 rfl (lv_at hl 0 rfl) ?_
      refine lv_iconst (v := 1) hx hb dX12_bounded_16 (by decide) ?_
      refine kq_v hw hS hA (va_runV (As := [.int 1]) (rest := []) ⟨hx, hb, hml, hown, hT⟩ (cX12_fail_0 l G cy ev K ln Ls hW _ hp0 ok0 qa900 1 kd900 (b_wid2 bc_1 (by decide) (by decide))) (cwV 1 hT (good_V tb_1635 tb_1632 tb_1634 tb_55 tb_122) rfl rfl rfl (by decide +kernel) ⟨Nat.le_of_ble_eq_true rfl, Nat.le_of_ble_eq_true rfl⟩) (pool_preV (ci := 12) hK hE hS hA hw hW kd900 (by decide) rfl) rfl rfl hl.1 rfl (lv_room (Nat.le_of_ble_eq_true rfl)) dX12_bounded_17 ⟨Nat.le_of_ble_eq_true rfl, Nat.le_of_ble_eq_true rfl⟩) (fun hp37 H locs hq40 hw hS => ?_)
      obtain ⟨ok38, F39, ⟨zi42, eq43, bd44⟩, rh45⟩ := hq40
      have hw : PW G cy K ln Ls A hp37 H := hw
      simp only [gi_of eq1, gi_of eq43] at rh45
      refine lv_iload_n hx hb dX12_bounded_20 rfl (lv_at hl 1 rfl) ?_
      have eq46 : hp37 qa900 11 = .int zi5 := Eq.trans (Fr.at (cq := 13011) F39 kd900 (cd_o (by decide)) (by decide)) eq4
      rw [hQ]
      exact kz_i hx hb hr hlocks hS rfl hp37 hw ⟨ok38, (Fr.tr (Fr.rf) F39 (by decide)), (by simp only [gi_of eq1, gi_of eq4, gi_of eq43, gi_of eq46]; omega), (by simp only [gi_of eq1, gi_of eq43]; omega), (by simp only [gi_of eq4, gi_of eq43, gi_of eq46]; omega)⟩ (Nat.le_of_ble_eq_true rfl) (Nat.le_of_ble_eq_true rfl) dX12_bounded_21
    · skip
      subst cn35
      obtain ⟨zi47, eq48, bd49⟩ := hc31 rfl
      have hx50 : zi2 = zi47 := Value.int.inj (Eq.trans (Eq.symm eq1) eq48)
      subst hx50
      have bd51 : (0 : Int) ≤ zi2.toInt ∧ zi2.toInt ≤ 0 := b_meet bd19 bd49 (by decide) (by decide)
      have rh52 := rh32 rfl
      simp only [ge_of eq20 eq4 eq23, toi bc_2] at rh52
      have rh53 := rh33 rfl
      simp only [gi_of eq1] at rh53
      refine lv_if_ne (tgt := 22) hx hb dX12_bounded_12 (by decide) (fun _ => ?_) (fun c => absurd c (d_ne bc_1 bc_0 (by decide)))
      refine lv_aload_n hx hb dX12_bounded_22 rfl (lv_at hl 0 rfl) ?_
      obtain ⟨qa55, eq54, kd56⟩ := rd_13007 ok0 kd900
      refine p_get (ci := 12) (v := .ref qa55) (C := RX12) (T := TX12) (N := 69) hx hb hT iw_X12 hown hK hw hW kd900 (by decide) rfl rfl 7 (by decide) eq54 (hT _ tb_1381) (fun _ h9 => h9) dX12_bounded_23 ?_
      refine lv_aload_n hx hb dX12_bounded_26 rfl (lv_at hl 0 rfl) ?_
      refine p_get (ci := 12) (v := .int zi5) (C := RX12) (T := TX12) (N := 69) hx hb hT iw_X12 hown hK hw hW kd900 (by decide) rfl rfl 11 (by decide) eq4 (hT _ tb_1385) (fun _ h9 => h9) dX12_bounded_27 ?_
      obtain ⟨zi58, eq57⟩ := rd_64000 ok0 kd56 ((zi5 : Int32).toNatClampNeg)
      refine p_iald (v := zi58) hx hb hK hw hW kd56 (by decide) rfl (hW.len kd56 (n := 403) rfl (by decide)) (vp_b bd6 (by decide) (by decide)) eq57 dX12_bounded_30 ?_
      refine lv_istore_n (lv' := [(3, .int zi58), (0, .ref qa900), (1, .int zi901), (2, .int zi902)]) hx hb dX12_bounded_31 rfl hl (by decide) rfl (fun ls hl => ?_)
      refine lv_iload_n hx hb dX12_bounded_32 rfl (lv_at hl 0 rfl) ?_
      refine lv_iload_n hx hb dX12_bounded_33 rfl (lv_at hl 2 rfl) ?_
      have jn84 : ∀ (hp79 : Nat → Nat → Value)  (H : Heap) (locs : List Loc) (ls : Array Slot), Ok K hp79 → Fr [13015, 13016] K hp0 hp79 → (4*zi5.toInt + zi2.toInt ≥ 4*zi5.toInt + zi2.toInt) → (zi2.toInt ≥ zi2.toInt) → lv_has ls 4 [(0, .ref qa900), (3, .int zi58)] → PW G cy K ln Ls A hp79 H → va_S A s.heap H locs → W p l e ({ frames := 2, cells := 0, slots := 0, locals := 41 } : Room) s m ([.ref qa900, .int zi901, .int zi902] : List Value).toArray below meth c H locs 0 0 Q (F0 m 51 ls []) := by
        intro hp79 H locs ls ok81 F80 rq82 rq83 hl hw hS
        refine lv_aload_n hx hb dX12_bounded_51 rfl (lv_at hl 0 rfl) ?_
        have eq85 : hp79 qa900 13 = .int zi2 := Eq.trans (Fr.at (cq := 13013) F80 kd900 (cd_o (by decide)) (by decide)) eq1
        have eq86 : hp79 qa900 11 = .int zi5 := Eq.trans (Fr.at (cq := 13011) F80 kd900 (cd_o (by decide)) (by decide)) eq4
        refine kq_v hw hS hA (va_runV (As := []) (rest := []) ⟨hx, hb, hml, hown, hT⟩ (cX12_goesOn_0 l G cy ev K ln Ls hW _ hp79 ok81 qa900 kd900) (cwV 0 hT (good_V tb_1639 tb_1636 tb_1638 tb_56 tb_122) rfl rfl rfl (by decide +kernel) ⟨Nat.le_of_ble_eq_true rfl, Nat.le_of_ble_eq_true rfl⟩) (pool_preV (ci := 12) hK hE hS hA hw hW kd900 (by decide) rfl) rfl rfl hl.1 rfl (lv_room (Nat.le_of_ble_eq_true rfl)) dX12_bounded_52 ⟨Nat.le_of_ble_eq_true rfl, Nat.le_of_ble_eq_true rfl⟩) (fun hp87 H locs hq90 hw hS => ?_)
        obtain ⟨ok88, F89, ⟨zi92, eq93, bd94⟩, rh95, rh96, rh97⟩ := hq90
        have hw : PW G cy K ln Ls A hp87 H := hw
        obtain ⟨zi99, eq98, bd100⟩ := rd_13013 ok88 kd900
        simp only [gi_of eq85, gi_of eq86, gi_of eq93, gi_of eq98] at rh95
        simp only [gi_of eq85, gi_of eq98] at rh96
        simp only [gi_of eq86, gi_of eq93, gi_of eq98] at rh97
        refine lv_iload_n hx hb dX12_bounded_55 rfl (lv_at hl 1 rfl) ?_
        rw [hQ]
        exact kz_i hx hb hr hlocks hS rfl hp87 hw ⟨ok88, (Fr.tr (Fr.tr (Fr.rf) F80 (by decide)) F89 (by decide)), (by simp only [gi_of eq1, gi_of eq4, gi_of eq93, gi_of eq98]; omega), (by simp only [gi_of eq1, gi_of eq98]; omega), (by simp only [gi_of eq4, gi_of eq93, gi_of eq98]; omega)⟩ (Nat.le_of_ble_eq_true rfl) (Nat.le_of_ble_eq_true rfl) dX12_bounded_56
      refine lv_icmp_lt (tgt := 42) hx hb dX12_bounded_34 (by decide) (fun cn59 => ?_) (fun cn59 => ?_)
      · skip
        have tf101 : zi58.toInt < zi901.toInt := (fa_lt _ _).mp cn59
        have bd102 : (-2147483648 : Int) ≤ zi58.toInt ∧ zi58.toInt ≤ 2147483646 := r_lt_x cn59 (b_all zi58) (b_all zi901) (by decide) (by decide)
        have bd103 : (-2147483647 : Int) ≤ zi901.toInt ∧ zi901.toInt ≤ 2147483647 := r_lt_y cn59 (b_all zi58) (b_all zi901) (by decide) (by decide)
        refine lv_aload_n hx hb dX12_bounded_42 rfl (lv_at hl 1 rfl) ?_
        refine lv_iconst (v := 5) hx hb dX12_bounded_43 (by decide) ?_
        refine lv_aload_n hx hb dX12_bounded_44 rfl (lv_at hl 1 rfl) ?_
        refine p_get (ci := 12) (v := .int zi5) (C := RX12) (T := TX12) (N := 69) hx hb hT iw_X12 hown hK hw hW kd900 (by decide) rfl rfl 11 (by decide) eq4 (hT _ tb_1385) (fun _ h9 => h9) dX12_bounded_45 ?_
        refine kq_v hw hS hA (va_runV (As := [.int 5, .int zi5]) (rest := []) ⟨hx, hb, hml, hown, hT⟩ (cX12_wrong_0 l G cy ev K ln Ls hW _ hp0 ok0 qa900 5 zi5 kd900 (b_wid2 bd6 (by decide) (by decide))) (cwV 2 hT (good_V tb_1655 tb_1652 tb_1654 tb_60 tb_122) rfl rfl rfl (by decide +kernel) ⟨Nat.le_of_ble_eq_true rfl, Nat.le_of_ble_eq_true rfl⟩) (pool_preV (ci := 12) hK hE hS hA hw hW kd900 (by decide) rfl) rfl rfl hl.1 rfl (lv_room (Nat.le_of_ble_eq_true rfl)) dX12_bounded_48 ⟨Nat.le_of_ble_eq_true rfl, Nat.le_of_ble_eq_true rfl⟩) (fun hp104 H locs hq107 hw hS => ?_)
        obtain ⟨ok105, F106⟩ := hq107
        have hw : PW G cy K ln Ls A hp104 H := hw
        have eq109 : hp104 qa900 11 = .int zi5 := Eq.trans (Fr.at (cq := 13011) F106 kd900 (cd_o (by decide)) (by decide)) eq4
        have eq110 : hp104 qa900 13 = .int zi2 := Eq.trans (Fr.at (cq := 13013) F106 kd900 (cd_o (by decide)) (by decide)) eq1
        exact jn84 hp104 _ _ ls ok105 (Fr.tr (Fr.rf) F106 (by decide)) (by omega) (by omega) (lv_sub hl [1, 0] rfl) hw hS
      · skip
        have tf111 : zi901.toInt ≤ zi58.toInt := (fa_le _ _).mp (Int32.not_lt.mp cn59)
        refine lv_iload_n hx hb dX12_bounded_37 rfl (lv_at hl 0 rfl) ?_
        refine lv_iload_n hx hb dX12_bounded_38 rfl (lv_at hl 3 rfl) ?_
        refine lv_icmp_le (tgt := 51) hx hb dX12_bounded_39 (by decide) (fun cn112 => ?_) (fun cn112 => ?_)
        · skip
          have tf113 : zi58.toInt ≤ zi902.toInt := (fa_le _ _).mp cn112
          exact jn84 hp0 _ _ ls ok0 (Fr.rf) (by omega) (by omega) (lv_sub hl [1, 0] rfl) hw hS
        · skip
          have tf114 : zi902.toInt < zi58.toInt := (fa_lt _ _).mp (Int32.not_le.mp cn112)
          have bd115 : (-2147483648 : Int) ≤ zi902.toInt ∧ zi902.toInt ≤ 2147483646 := r_lt_x (Int32.not_le.mp cn112) (b_all zi902) (b_all zi58) (by decide) (by decide)
          have bd116 : (-2147483647 : Int) ≤ zi58.toInt ∧ zi58.toInt ≤ 2147483647 := r_lt_y (Int32.not_le.mp cn112) (b_all zi902) (b_all zi58) (by decide) (by decide)
          refine lv_aload_n hx hb dX12_bounded_42 rfl (lv_at hl 1 rfl) ?_
          refine lv_iconst (v := 5) hx hb dX12_bounded_43 (by decide) ?_
          refine lv_aload_n hx hb dX12_bounded_44 rfl (lv_at hl 1 rfl) ?_
          refine p_get (ci := 12) (v := .int zi5) (C := RX12) (T := TX12) (N := 69) hx hb hT iw_X12 hown hK hw hW kd900 (by decide) rfl rfl 11 (by decide) eq4 (hT _ tb_1385) (fun _ h9 => h9) dX12_bounded_45 ?_
          refine kq_v hw hS hA (va_runV (As := [.int 5, .int zi5]) (rest := []) ⟨hx, hb, hml, hown, hT⟩ (cX12_wrong_0 l G cy ev K ln Ls hW _ hp0 ok0 qa900 5 zi5 kd900 (b_wid2 bd6 (by decide) (by decide))) (cwV 2 hT (good_V tb_1655 tb_1652 tb_1654 tb_60 tb_122) rfl rfl rfl (by decide +kernel) ⟨Nat.le_of_ble_eq_true rfl, Nat.le_of_ble_eq_true rfl⟩) (pool_preV (ci := 12) hK hE hS hA hw hW kd900 (by decide) rfl) rfl rfl hl.1 rfl (lv_room (Nat.le_of_ble_eq_true rfl)) dX12_bounded_48 ⟨Nat.le_of_ble_eq_true rfl, Nat.le_of_ble_eq_true rfl⟩) (fun hp117 H locs hq120 hw hS => ?_)
          obtain ⟨ok118, F119⟩ := hq120
          have hw : PW G cy K ln Ls A hp117 H := hw
          have eq122 : hp117 qa900 11 = .int zi5 := Eq.trans (Fr.at (cq := 13011) F119 kd900 (cd_o (by decide)) (by decide)) eq4
          have eq123 : hp117 qa900 13 = .int zi2 := Eq.trans (Fr.at (cq := 13013) F119 kd900 (cd_o (by decide)) (by decide)) eq1
          exact jn84 hp117 _ _ ls ok118 (Fr.tr (Fr.rf) F119 (by decide)) (by omega) (by omega) (lv_sub hl [1, 0] rfl) hw hS

set_option maxRecDepth 100000 in
set_option maxHeartbeats 4000000 in
theorem cX12_tellCase_0 (l : Launch) (G : va_G) (cy : Nat → ClassId) (ev : Ew) (K ln : Nat → Nat) (Ls : List Nat) (hW : SW K ln Ls) (sz : Nat) (hp0 : Nat → Nat → Value) (ok0 : Ok K hp0) (qa900 : Nat) (kd900 : K qa900 = 13) (rp0 : (gi hp0 qa900 20) ≤ (ge hp0 qa900 24 19) + (ge hp0 qa900 27 19) + (ge hp0 qa900 32 19)) (rp1 : (gi hp0 qa900 12) ≤ 7*(gi hp0 qa900 13)) (rp2 : (ge hp0 qa900 32 19) ≤ 7) : Met l yX12_tellCase (WS yX12_tellCase cX12_tellCase 3 none) { frames := 5, cells := 0, slots := 0, locals := 107 } (PB2 [.ref qa900] sz G cy ev (va_pl Ls (cellOf cy K ln hp0))) (QBv (S := (Nat → Nat → Value)) (fun u : (Nat → Nat → Value) => Ok K u ∧ Fr [13011, 13012, 13013, 13014, 13015, 13016, 13020, 67000, 68000, 69000, 78000, 79000, 80000, 86000, 87000, 88000] K hp0 u ∧ (4*(gi u qa900 11) + (gi u qa900 13) ≥ 4*(gi hp0 qa900 11) + (gi hp0 qa900 13)) ∧ ((gi u qa900 13) ≥ (gi hp0 qa900 13)) ∧ ((gi u qa900 20) ≤ (ge u qa900 24 19) + (ge u qa900 27 19) + (ge u qa900 32 19)) ∧ ((gi u qa900 12) ≤ 7*(gi u qa900 13))) G (fun u => va_pl Ls (cellOf cy K ln u)) (va_A (va_pl Ls (cellOf cy K ln hp0)) sz)) 0 0 (va_A (va_pl Ls (cellOf cy K ln hp0)) sz) := by
  refine met_of2 (y := yX12_tellCase) (L := 3) (av := [.ref qa900]) (Qc := fun A => QBv (S := (Nat → Nat → Value)) (fun u : (Nat → Nat → Value) => Ok K u ∧ Fr [13011, 13012, 13013, 13014, 13015, 13016, 13020, 67000, 68000, 69000, 78000, 79000, 80000, 86000, 87000, 88000] K hp0 u ∧ (4*(gi u qa900 11) + (gi u qa900 13) ≥ 4*(gi hp0 qa900 11) + (gi hp0 qa900 13)) ∧ ((gi u qa900 13) ≥ (gi hp0 qa900 13)) ∧ ((gi u qa900 20) ≤ (ge u qa900 24 19) + (ge u qa900 27 19) + (ge u qa900 32 19)) ∧ ((gi u qa900 12) ≤ 7*(gi u qa900 13))) G (fun u => va_pl Ls (cellOf cy K ln u)) A) (plainFor_of_name (by decide)) (Nat.le_of_ble_eq_true rfl) ?_
  intro p e s m below meth c hsz hx hb hr hml hown hT hlocks hin hK A hA hE hw hS ls hl
  have hw : PW G cy K ln Ls A hp0 s.heap := hw
  have hown : s.vm.findClass "LieClockModel" = some m.cls := hown
  have hl : lv_has ls 3 [(0, .ref qa900)] := hl
  obtain ⟨Q, hQ⟩ : ∃ Q : State → Prop, Q = MQ below (QBv (S := (Nat → Nat → Value)) (fun u : (Nat → Nat → Value) => Ok K u ∧ Fr [13011, 13012, 13013, 13014, 13015, 13016, 13020, 67000, 68000, 69000, 78000, 79000, 80000, 86000, 87000, 88000] K hp0 u ∧ (4*(gi u qa900 11) + (gi u qa900 13) ≥ 4*(gi hp0 qa900 11) + (gi hp0 qa900 13)) ∧ ((gi u qa900 13) ≥ (gi hp0 qa900 13)) ∧ ((gi u qa900 20) ≤ (ge u qa900 24 19) + (ge u qa900 27 19) + (ge u qa900 32 19)) ∧ ((gi u qa900 12) ≤ 7*(gi u qa900 13))) G (fun u => va_pl Ls (cellOf cy K ln u)) A) ([.ref qa900] : List Value).toArray s 0 0 A := ⟨_, rfl⟩
  rw [← hQ]
  obtain ⟨qa2, eq1, kd3⟩ := rd_13032 ok0 kd900
  obtain ⟨zi5, eq4, bd6⟩ := rd_13019 ok0 kd900
  obtain ⟨zi8, eq7, bd9⟩ := rd_78000 ok0 kd3 ((zi5 : Int32).toNatClampNeg)
  obtain ⟨qa11, eq10, kd12⟩ := rd_13024 ok0 kd900
  obtain ⟨zi14, eq13, bd15⟩ := rd_70000 ok0 kd12 ((zi5 : Int32).toNatClampNeg)
  obtain ⟨zi17, eq16, bd18⟩ := rd_13013 ok0 kd900
  obtain ⟨zi20, eq19, bd21⟩ := rd_13020 ok0 kd900
  obtain ⟨zi23, eq22, bd24⟩ := rd_13012 ok0 kd900
  obtain ⟨zi26, eq25, bd27⟩ := rd_13011 ok0 kd900
  obtain ⟨qa29, eq28, kd30⟩ := rd_13027 ok0 kd900
  obtain ⟨zi32, eq31, bd33⟩ := rd_73000 ok0 kd30 ((zi5 : Int32).toNatClampNeg)
  have rq0 := rp0
  simp only [ge_of eq1 eq4 eq7, ge_of eq10 eq4 eq13, gi_of eq19, ge_of eq28 eq4 eq31] at rq0
  have rq1 := rp1
  simp only [gi_of eq16, gi_of eq22] at rq1
  have rq2 := rp2
  simp only [ge_of eq1 eq4 eq7] at rq2
  have bd34 : (0 : Int) ≤ zi8.toInt ∧ zi8.toInt ≤ 7 := (by omega)
  refine lv_bipush (v := 8) hx hb dX12_tellCase_0 (by decide) ?_
  refine lv_aload_n hx hb dX12_tellCase_2 rfl (lv_at hl 0 rfl) ?_
  refine p_get (ci := 12) (v := .int zi5) (C := RX12) (T := TX12) (N := 69) hx hb hT iw_X12 hown hK hw hW kd900 (by decide) rfl rfl 19 (by decide) eq4 (hT _ tb_1393) (fun _ h9 => h9) dX12_tellCase_3 ?_
  refine lv_imul hx hb dX12_tellCase_6 (lv_topi (fun zi35 ea36 => ?_))
  have bd37 : (0 : Int) ≤ zi35.toInt ∧ zi35.toInt ≤ 8 := b_imul ea36 bc_8 bd6 (by decide) (by decide) (by decide) (by decide) (by decide)
  have qe38 : zi35.toInt = (8 : Int32).toInt * (zi5 : Int32).toInt := e_imul (b := 8) (d := 1) ea36 (b_wid2 bc_8 (by decide) (by decide)) (b_wid2 bd6 (by decide) (by decide)) (by decide)
  have qe39 : zi35.toInt = 8 * zi5.toInt := by have ha : (8 : Int32).toInt = 8 := (by decide); rw [ha] at qe38; exact qe38
  refine lv_aload_n hx hb dX12_tellCase_7 rfl (lv_at hl 0 rfl) ?_
  refine p_get (ci := 12) (v := .ref qa2) (C := RX12) (T := TX12) (N := 69) hx hb hT iw_X12 hown hK hw hW kd900 (by decide) rfl rfl 32 (by decide) eq1 (hT _ tb_1406) (fun _ h9 => h9) dX12_tellCase_8 ?_
  refine lv_aload_n hx hb dX12_tellCase_11 rfl (lv_at hl 0 rfl) ?_
  refine p_get (ci := 12) (v := .int zi5) (C := RX12) (T := TX12) (N := 69) hx hb hT iw_X12 hown hK hw hW kd900 (by decide) rfl rfl 19 (by decide) eq4 (hT _ tb_1393) (fun _ h9 => h9) dX12_tellCase_12 ?_
  refine p_iald (v := zi8) hx hb hK hw hW kd3 (by decide) rfl (hW.len kd3 (n := 2) rfl (by decide)) (vp_b bd6 (by decide) (by decide)) eq7 dX12_tellCase_15 ?_
  refine lv_iadd hx hb dX12_tellCase_16 (lv_topi (fun zi40 ea41 => ?_))
  have bd42 : (0 : Int) ≤ zi40.toInt ∧ zi40.toInt ≤ 15 := b_iadd ea41 bd37 bd34 (by decide) (by decide) (by decide) (by decide)
  have qe43 : zi40.toInt = zi35.toInt + zi8.toInt := e_iadd ea41 bd37 bd34 (by decide) (by decide)
  refine lv_istore_n (lv' := [(1, .int zi40), (0, .ref qa900)]) hx hb dX12_tellCase_17 rfl hl (by decide) rfl (fun ls hl => ?_)
  refine lv_aload_n hx hb dX12_tellCase_18 rfl (lv_at hl 1 rfl) ?_
  refine kq_i hw hS hA (va_runV (As := []) (rest := []) ⟨hx, hb, hml, hown, hT⟩ (cX12_named_0 l G cy ev K ln Ls hW _ hp0 ok0 qa900 kd900) (cwV 0 hT (good_V tb_1647 tb_1644 tb_1646 tb_58 tb_122) rfl rfl rfl (by decide +kernel) ⟨Nat.le_of_ble_eq_true rfl, Nat.le_of_ble_eq_true rfl⟩) (pool_preV (ci := 12) hK hE hS hA hw hW kd900 (by decide) rfl) rfl rfl hl.1 rfl (lv_room (Nat.le_of_ble_eq_true rfl)) dX12_tellCase_19 ⟨Nat.le_of_ble_eq_true rfl, Nat.le_of_ble_eq_true rfl⟩) (fun zi48 hp44 H locs hq47 hw hS => ?_)
  obtain ⟨ok45, F46, bd49, rh50, rh51, rh52⟩ := hq47
  have hw : PW G cy K ln Ls A hp44 H := hw
  obtain ⟨zi54, eq53, bd55⟩ := rd_13013 ok45 kd900
  obtain ⟨zi57, eq56, bd58⟩ := rd_13011 ok45 kd900
  simp only [gi_of eq16, gi_of eq25, gi_of eq53, gi_of eq56] at rh50
  simp only [gi_of eq16, gi_of eq53] at rh51
  simp only [gi_of eq25, gi_of eq53, gi_of eq56] at rh52
  refine lv_istore_n (lv' := [(2, .int zi48), (1, .int zi40), (0, .ref qa900)]) hx hb dX12_tellCase_22 rfl hl (by decide) rfl (fun ls hl => ?_)
  refine lv_aload_n hx hb dX12_tellCase_23 rfl (lv_at hl 2 rfl) ?_
  obtain ⟨qa60, eq59, kd61⟩ := rd_13033 ok45 kd900
  refine p_get (ci := 12) (v := .ref qa60) (C := RX12) (T := TX12) (N := 69) hx hb hT iw_X12 hown hK hw hW kd900 (by decide) rfl rfl 33 (by decide) eq59 (hT _ tb_1407) (fun _ h9 => h9) dX12_tellCase_24 ?_
  refine lv_iload_n hx hb dX12_tellCase_27 rfl (lv_at hl 1 rfl) ?_
  refine lv_aload_n hx hb dX12_tellCase_28 rfl (lv_at hl 2 rfl) ?_
  refine lv_iconst (v := 0) hx hb dX12_tellCase_29 (by decide) ?_
  refine lv_sipush (v := 2879) hx hb dX12_tellCase_30 (by decide) ?_
  refine kq_i hw hS hA (va_runV (As := [.int 0, .int 2879]) (rest := [.int zi40, .ref qa60]) ⟨hx, hb, hml, hown, hT⟩ (cX12_bounded_0 l G cy ev K ln Ls hW _ hp44 ok45 qa900 0 2879 kd900) (cwV 2 hT (good_V tb_1699 tb_1696 tb_1698 tb_70 tb_122) rfl rfl rfl (by decide +kernel) ⟨Nat.le_of_ble_eq_true rfl, Nat.le_of_ble_eq_true rfl⟩) (pool_preV (ci := 12) hK hE hS hA hw hW kd900 (by decide) rfl) rfl rfl hl.1 rfl (lv_room (Nat.le_of_ble_eq_true rfl)) dX12_tellCase_33 ⟨Nat.le_of_ble_eq_true rfl, Nat.le_of_ble_eq_true rfl⟩) (fun zi66 hp62 H locs hq65 hw hS => ?_)
  obtain ⟨ok63, F64, rh67, rh68, rh69⟩ := hq65
  have hw : PW G cy K ln Ls A hp62 H := hw
  obtain ⟨zi71, eq70, bd72⟩ := rd_13013 ok63 kd900
  obtain ⟨zi74, eq73, bd75⟩ := rd_13011 ok63 kd900
  simp only [gi_of eq53, gi_of eq56, gi_of eq70, gi_of eq73] at rh67
  simp only [gi_of eq53, gi_of eq70] at rh68
  simp only [gi_of eq56, gi_of eq70, gi_of eq73] at rh69
  refine p_iast (x := zi66) hx hb hK hw hS hW kd61 (by decide) rfl (hW.len kd61 (n := 16) rfl (by decide)) (vp_b bd42 (by decide) (by decide)) dX12_tellCase_36 (fun hp76 eh77 H locs hw hS => ?_)
  have ok78 := wr_79000 ok63 kd61 eh77
  refine lv_aload_n hx hb dX12_tellCase_37 rfl (lv_at hl 2 rfl) ?_
  refine lv_iconst (v := 5) hx hb dX12_tellCase_38 (by decide) ?_
  have eq79 : hp76 qa900 13 = .int zi71 := Eq.trans (up_at eh77 (Or.inl (kd_ne kd900 kd61 (by decide)))) eq70
  have eq80 : hp76 qa900 11 = .int zi74 := Eq.trans (up_at eh77 (Or.inl (kd_ne kd900 kd61 (by decide)))) eq73
  refine kq_v hw hS hA (va_runV (As := [.int 5]) (rest := []) ⟨hx, hb, hml, hown, hT⟩ (cX12_must_0 l G cy ev K ln Ls hW _ hp76 ok78 qa900 5 kd900) (cwV 1 hT (good_V tb_1651 tb_1648 tb_1650 tb_59 tb_122) rfl rfl rfl (by decide +kernel) ⟨Nat.le_of_ble_eq_true rfl, Nat.le_of_ble_eq_true rfl⟩) (pool_preV (ci := 12) hK hE hS hA hw hW kd900 (by decide) rfl) rfl rfl hl.1 rfl (lv_room (Nat.le_of_ble_eq_true rfl)) dX12_tellCase_39 ⟨Nat.le_of_ble_eq_true rfl, Nat.le_of_ble_eq_true rfl⟩) (fun hp81 H locs hq84 hw hS => ?_)
  obtain ⟨ok82, F83, rh86, rh87, rh88⟩ := hq84
  have hw : PW G cy K ln Ls A hp81 H := hw
  obtain ⟨zi90, eq89, bd91⟩ := rd_13013 ok82 kd900
  obtain ⟨zi93, eq92, bd94⟩ := rd_13011 ok82 kd900
  simp only [gi_of eq79, gi_of eq80, gi_of eq89, gi_of eq92] at rh86
  simp only [gi_of eq79, gi_of eq89] at rh87
  simp only [gi_of eq80, gi_of eq89, gi_of eq92] at rh88
  refine lv_aload_n hx hb dX12_tellCase_42 rfl (lv_at hl 2 rfl) ?_
  obtain ⟨qa96, eq95, kd97⟩ := rd_13034 ok82 kd900
  refine p_get (ci := 12) (v := .ref qa96) (C := RX12) (T := TX12) (N := 69) hx hb hT iw_X12 hown hK hw hW kd900 (by decide) rfl rfl 34 (by decide) eq95 (hT _ tb_1408) (fun _ h9 => h9) dX12_tellCase_43 ?_
  refine lv_iload_n hx hb dX12_tellCase_46 rfl (lv_at hl 1 rfl) ?_
  refine lv_aload_n hx hb dX12_tellCase_47 rfl (lv_at hl 2 rfl) ?_
  have eq98 : hp81 qa900 12 = .int zi23 := Eq.trans (Fr.at (cq := 13012) F83 kd900 (cd_o (by decide)) (by decide)) (Eq.trans (up_at eh77 (Or.inl (kd_ne kd900 kd61 (by decide)))) (Eq.trans (Fr.at (cq := 13012) F64 kd900 (cd_o (by decide)) (by decide)) (Eq.trans (Fr.at (cq := 13012) F46 kd900 (cd_o (by decide)) (by decide)) eq22)))
  refine kq_l hw hS hA (va_runV (As := []) (rest := [.int zi40, .ref qa96]) ⟨hx, hb, hml, hown, hT⟩ (cX12_condition_0 l G cy ev K ln Ls hW _ hp81 ok82 qa900 kd900 (by simp only [gi_of eq89, gi_of eq98]; omega)) (cwV 0 hT (good_V tb_1675 tb_1672 tb_1674 tb_65 tb_122) rfl rfl rfl (by decide +kernel) ⟨Nat.le_of_ble_eq_true rfl, Nat.le_of_ble_eq_true rfl⟩) (pool_preV (ci := 12) hK hE hS hA hw hW kd900 (by decide) rfl) rfl rfl hl.1 rfl (lv_room (Nat.le_of_ble_eq_true rfl)) dX12_tellCase_48 ⟨Nat.le_of_ble_eq_true rfl, Nat.le_of_ble_eq_true rfl⟩) (fun wl103 hp99 H locs hq102 hw hS => ?_)
  obtain ⟨ok100, F101, rh104, rh105, rh106⟩ := hq102
  have hw : PW G cy K ln Ls A hp99 H := hw
  obtain ⟨zi108, eq107, bd109⟩ := rd_13013 ok100 kd900
  obtain ⟨zi111, eq110, bd112⟩ := rd_13011 ok100 kd900
  simp only [gi_of eq107, gi_of eq110, gi_of eq89, gi_of eq92] at rh104
  simp only [gi_of eq107, gi_of eq89] at rh105
  obtain ⟨zi114, eq113, bd115⟩ := rd_13012 ok100 kd900
  simp only [gi_of eq107, gi_of eq113] at rh106
  refine p_last (x := wl103) hx hb hK hw hS hW kd97 (by decide) rfl (hW.len kd97 (n := 16) rfl (by decide)) (vp_b bd42 (by decide) (by decide)) dX12_tellCase_51 (fun hp116 eh117 H locs hw hS => ?_)
  have ok118 := wr_80000 ok100 kd97 eh117
  refine lv_aload_n hx hb dX12_tellCase_52 rfl (lv_at hl 2 rfl) ?_
  refine lv_iconst (v := 4) hx hb dX12_tellCase_53 (by decide) ?_
  have eq119 : hp116 qa900 13 = .int zi108 := Eq.trans (up_at eh117 (Or.inl (kd_ne kd900 kd97 (by decide)))) eq107
  have eq120 : hp116 qa900 11 = .int zi111 := Eq.trans (up_at eh117 (Or.inl (kd_ne kd900 kd97 (by decide)))) eq110
  refine kq_v hw hS hA (va_runV (As := [.int 4]) (rest := []) ⟨hx, hb, hml, hown, hT⟩ (cX12_must_0 l G cy ev K ln Ls hW _ hp116 ok118 qa900 4 kd900) (cwV 1 hT (good_V tb_1651 tb_1648 tb_1650 tb_59 tb_122) rfl rfl rfl (by decide +kernel) ⟨Nat.le_of_ble_eq_true rfl, Nat.le_of_ble_eq_true rfl⟩) (pool_preV (ci := 12) hK hE hS hA hw hW kd900 (by decide) rfl) rfl rfl hl.1 rfl (lv_room (Nat.le_of_ble_eq_true rfl)) dX12_tellCase_54 ⟨Nat.le_of_ble_eq_true rfl, Nat.le_of_ble_eq_true rfl⟩) (fun hp121 H locs hq124 hw hS => ?_)
  obtain ⟨ok122, F123, rh126, rh127, rh128⟩ := hq124
  have hw : PW G cy K ln Ls A hp121 H := hw
  obtain ⟨zi130, eq129, bd131⟩ := rd_13013 ok122 kd900
  obtain ⟨zi133, eq132, bd134⟩ := rd_13011 ok122 kd900
  simp only [gi_of eq119, gi_of eq120, gi_of eq129, gi_of eq132] at rh126
  simp only [gi_of eq119, gi_of eq129] at rh127
  simp only [gi_of eq120, gi_of eq129, gi_of eq132] at rh128
  refine lv_aload_n hx hb dX12_tellCase_57 rfl (lv_at hl 2 rfl) ?_
  refine p_get (ci := 12) (v := .int zi130) (C := RX12) (T := TX12) (N := 69) hx hb hT iw_X12 hown hK hw hW kd900 (by decide) rfl rfl 13 (by decide) eq129 (hT _ tb_1387) (fun _ h9 => h9) dX12_tellCase_58 ?_
  have eq136 : hp121 qa900 20 = .int zi20 := Eq.trans (Fr.at (cq := 13020) F123 kd900 (cd_o (by decide)) (by decide)) (Eq.trans (up_at eh117 (Or.inl (kd_ne kd900 kd97 (by decide)))) (Eq.trans (Fr.at (cq := 13020) F101 kd900 (cd_o (by decide)) (by decide)) (Eq.trans (Fr.at (cq := 13020) F83 kd900 (cd_o (by decide)) (by decide)) (Eq.trans (up_at eh77 (Or.inl (kd_ne kd900 kd61 (by decide)))) (Eq.trans (Fr.at (cq := 13020) F64 kd900 (cd_o (by decide)) (by decide)) (Eq.trans (Fr.at (cq := 13020) F46 kd900 (cd_o (by decide)) (by decide)) eq19))))))
  have eq137 : hp121 qa900 24 = .ref qa11 := Eq.trans (Fr.at (cq := 13024) F123 kd900 (cd_o (by decide)) (by decide)) (Eq.trans (up_at eh117 (Or.inl (kd_ne kd900 kd97 (by decide)))) (Eq.trans (Fr.at (cq := 13024) F101 kd900 (cd_o (by decide)) (by decide)) (Eq.trans (Fr.at (cq := 13024) F83 kd900 (cd_o (by decide)) (by decide)) (Eq.trans (up_at eh77 (Or.inl (kd_ne kd900 kd61 (by decide)))) (Eq.trans (Fr.at (cq := 13024) F64 kd900 (cd_o (by decide)) (by decide)) (Eq.trans (Fr.at (cq := 13024) F46 kd900 (cd_o (by decide)) (by decide)) eq10))))))
  have eq138 : hp121 qa900 19 = .int zi5 := Eq.trans (Fr.at (cq := 13019) F123 kd900 (cd_o (by decide)) (by decide)) (Eq.trans (up_at eh117 (Or.inl (kd_ne kd900 kd97 (by decide)))) (Eq.trans (Fr.at (cq := 13019) F101 kd900 (cd_o (by decide)) (by decide)) (Eq.trans (Fr.at (cq := 13019) F83 kd900 (cd_o (by decide)) (by decide)) (Eq.trans (up_at eh77 (Or.inl (kd_ne kd900 kd61 (by decide)))) (Eq.trans (Fr.at (cq := 13019) F64 kd900 (cd_o (by decide)) (by decide)) (Eq.trans (Fr.at (cq := 13019) F46 kd900 (cd_o (by decide)) (by decide)) eq4))))))
  have eq139 : hp121 qa11 (zi5 : Int32).toNatClampNeg = .int zi14 := Eq.trans (Fr.at (cq := 70000) F123 kd12 (cd_a (by decide)) (by decide)) (Eq.trans (up_at eh117 (Or.inl (kd_ne kd12 kd97 (by decide)))) (Eq.trans (Fr.at (cq := 70000) F101 kd12 (cd_a (by decide)) (by decide)) (Eq.trans (Fr.at (cq := 70000) F83 kd12 (cd_a (by decide)) (by decide)) (Eq.trans (up_at eh77 (Or.inl (kd_ne kd12 kd61 (by decide)))) (Eq.trans (Fr.at (cq := 70000) F64 kd12 (cd_a (by decide)) (by decide)) (Eq.trans (Fr.at (cq := 70000) F46 kd12 (cd_a (by decide)) (by decide)) eq13))))))
  have eq140 : hp121 qa900 27 = .ref qa29 := Eq.trans (Fr.at (cq := 13027) F123 kd900 (cd_o (by decide)) (by decide)) (Eq.trans (up_at eh117 (Or.inl (kd_ne kd900 kd97 (by decide)))) (Eq.trans (Fr.at (cq := 13027) F101 kd900 (cd_o (by decide)) (by decide)) (Eq.trans (Fr.at (cq := 13027) F83 kd900 (cd_o (by decide)) (by decide)) (Eq.trans (up_at eh77 (Or.inl (kd_ne kd900 kd61 (by decide)))) (Eq.trans (Fr.at (cq := 13027) F64 kd900 (cd_o (by decide)) (by decide)) (Eq.trans (Fr.at (cq := 13027) F46 kd900 (cd_o (by decide)) (by decide)) eq28))))))
  have eq141 : hp121 qa29 (zi5 : Int32).toNatClampNeg = .int zi32 := Eq.trans (Fr.at (cq := 73000) F123 kd30 (cd_a (by decide)) (by decide)) (Eq.trans (up_at eh117 (Or.inl (kd_ne kd30 kd97 (by decide)))) (Eq.trans (Fr.at (cq := 73000) F101 kd30 (cd_a (by decide)) (by decide)) (Eq.trans (Fr.at (cq := 73000) F83 kd30 (cd_a (by decide)) (by decide)) (Eq.trans (up_at eh77 (Or.inl (kd_ne kd30 kd61 (by decide)))) (Eq.trans (Fr.at (cq := 73000) F64 kd30 (cd_a (by decide)) (by decide)) (Eq.trans (Fr.at (cq := 73000) F46 kd30 (cd_a (by decide)) (by decide)) eq31))))))
  have eq142 : hp121 qa900 32 = .ref qa2 := Eq.trans (Fr.at (cq := 13032) F123 kd900 (cd_o (by decide)) (by decide)) (Eq.trans (up_at eh117 (Or.inl (kd_ne kd900 kd97 (by decide)))) (Eq.trans (Fr.at (cq := 13032) F101 kd900 (cd_o (by decide)) (by decide)) (Eq.trans (Fr.at (cq := 13032) F83 kd900 (cd_o (by decide)) (by decide)) (Eq.trans (up_at eh77 (Or.inl (kd_ne kd900 kd61 (by decide)))) (Eq.trans (Fr.at (cq := 13032) F64 kd900 (cd_o (by decide)) (by decide)) (Eq.trans (Fr.at (cq := 13032) F46 kd900 (cd_o (by decide)) (by decide)) eq1))))))
  have eq143 : hp121 qa2 (zi5 : Int32).toNatClampNeg = .int zi8 := Eq.trans (Fr.at (cq := 78000) F123 kd3 (cd_a (by decide)) (by decide)) (Eq.trans (up_at eh117 (Or.inl (kd_ne kd3 kd97 (by decide)))) (Eq.trans (Fr.at (cq := 78000) F101 kd3 (cd_a (by decide)) (by decide)) (Eq.trans (Fr.at (cq := 78000) F83 kd3 (cd_a (by decide)) (by decide)) (Eq.trans (up_at eh77 (Or.inl (kd_ne kd3 kd61 (by decide)))) (Eq.trans (Fr.at (cq := 78000) F64 kd3 (cd_a (by decide)) (by decide)) (Eq.trans (Fr.at (cq := 78000) F46 kd3 (cd_a (by decide)) (by decide)) eq7))))))
  have eq144 : hp121 qa900 12 = .int zi114 := Eq.trans (Fr.at (cq := 13012) F123 kd900 (cd_o (by decide)) (by decide)) (Eq.trans (up_at eh117 (Or.inl (kd_ne kd900 kd97 (by decide)))) eq113)
  refine lv_if_le (tgt := 65) hx hb dX12_tellCase_61 (by decide) (fun cn135 => ?_) (fun cn135 => ?_)
  · skip
    have bd145 : (0 : Int) ≤ zi130.toInt ∧ zi130.toInt ≤ 0 := r_le_x cn135 bd131 bc_0 (by decide) (by decide)
    have bd146 : (0 : Int) ≤ zi20.toInt ∧ zi20.toInt ≤ 19 := (by omega)
    refine lv_aload_n hx hb dX12_tellCase_65 rfl (lv_at hl 2 rfl) ?_
    refine lv_iload_n hx hb dX12_tellCase_66 rfl (lv_at hl 0 rfl) ?_
    refine lv_iconst (v := 2) hx hb dX12_tellCase_67 (by decide) ?_
    refine lv_aload_n hx hb dX12_tellCase_68 rfl (lv_at hl 2 rfl) ?_
    refine p_get (ci := 12) (v := .ref qa2) (C := RX12) (T := TX12) (N := 69) hx hb hT iw_X12 hown hK hw hW kd900 (by decide) rfl rfl 32 (by decide) eq142 (hT _ tb_1406) (fun _ h9 => h9) dX12_tellCase_69 ?_
    refine lv_aload_n hx hb dX12_tellCase_72 rfl (lv_at hl 2 rfl) ?_
    refine p_get (ci := 12) (v := .int zi5) (C := RX12) (T := TX12) (N := 69) hx hb hT iw_X12 hown hK hw hW kd900 (by decide) rfl rfl 19 (by decide) eq138 (hT _ tb_1393) (fun _ h9 => h9) dX12_tellCase_73 ?_
    refine p_iald (v := zi8) hx hb hK hw hW kd3 (by decide) rfl (hW.len kd3 (n := 2) rfl (by decide)) (vp_b bd6 (by decide) (by decide)) eq143 dX12_tellCase_76 ?_
    refine kq_v hw hS hA (va_runV (As := [.int zi48, .int 2, .int zi8]) (rest := []) ⟨hx, hb, hml, hown, hT⟩ (cX12_notes_0 l G cy ev K ln Ls hW _ hp121 ok122 qa900 zi48 2 zi8 zi20 kd900 (b_wid2 bd49 (by decide) (by decide)) (b_wid2 bd34 (by decide) (by decide)) eq136 (b_wid2 bd146 (by decide) (by decide))) (cwV 3 hT (good_V tb_1659 tb_1656 tb_1658 tb_61 tb_122) rfl rfl rfl (by decide +kernel) ⟨Nat.le_of_ble_eq_true rfl, Nat.le_of_ble_eq_true rfl⟩) (pool_preV (ci := 12) hK hE hS hA hw hW kd900 (by decide) rfl) rfl rfl hl.1 rfl (lv_room (Nat.le_of_ble_eq_true rfl)) dX12_tellCase_77 ⟨Nat.le_of_ble_eq_true rfl, Nat.le_of_ble_eq_true rfl⟩) (fun hp147 H locs hq150 hw hS => ?_)
    obtain ⟨ok148, F149, ⟨zi152, eq153, bd154⟩, rh155⟩ := hq150
    have hw : PW G cy K ln Ls A hp147 H := hw
    simp only [gi_of eq136, gi_of eq153] at rh155
    refine lv_aload_n hx hb dX12_tellCase_80 rfl (lv_at hl 2 rfl) ?_
    have eq156 : hp147 qa900 32 = .ref qa2 := Eq.trans (Fr.at (cq := 13032) F149 kd900 (cd_o (by decide)) (by decide)) eq142
    refine p_get (ci := 12) (v := .ref qa2) (C := RX12) (T := TX12) (N := 69) hx hb hT iw_X12 hown hK hw hW kd900 (by decide) rfl rfl 32 (by decide) eq156 (hT _ tb_1406) (fun _ h9 => h9) dX12_tellCase_81 ?_
    refine lv_aload_n hx hb dX12_tellCase_84 rfl (lv_at hl 2 rfl) ?_
    have eq157 : hp147 qa900 19 = .int zi5 := Eq.trans (Fr.at (cq := 13019) F149 kd900 (cd_o (by decide)) (by decide)) eq138
    refine p_get (ci := 12) (v := .int zi5) (C := RX12) (T := TX12) (N := 69) hx hb hT iw_X12 hown hK hw hW kd900 (by decide) rfl rfl 19 (by decide) eq157 (hT _ tb_1393) (fun _ h9 => h9) dX12_tellCase_85 ?_
    refine lv_dup2_11 hx hb dX12_tellCase_88 rfl rfl ?_
    have eq158 : hp147 qa2 (zi5 : Int32).toNatClampNeg = .int zi8 := Eq.trans (Fr.at (cq := 78000) F149 kd3 (cd_a (by decide)) (by decide)) eq143
    refine p_iald (v := zi8) hx hb hK hw hW kd3 (by decide) rfl (hW.len kd3 (n := 2) rfl (by decide)) (vp_b bd6 (by decide) (by decide)) eq158 dX12_tellCase_89 ?_
    refine lv_iconst (v := 1) hx hb dX12_tellCase_90 (by decide) ?_
    refine lv_iadd hx hb dX12_tellCase_91 (lv_topi (fun zi159 ea160 => ?_))
    have bd161 : (1 : Int) ≤ zi159.toInt ∧ zi159.toInt ≤ 8 := b_iadd ea160 bd34 bc_1 (by decide) (by decide) (by decide) (by decide)
    have qe162 : zi159.toInt = (zi8 : Int32).toInt + (1 : Int32).toInt := e_iadd ea160 bd34 bc_1 (by decide) (by decide)
    have qe163 : zi159.toInt = zi8.toInt + 1 := by have ha : (1 : Int32).toInt = 1 := (by decide); rw [ha] at qe162; exact qe162
    refine p_iast (x := zi159) hx hb hK hw hS hW kd3 (by decide) rfl (hW.len kd3 (n := 2) rfl (by decide)) (vp_b bd6 (by decide) (by decide)) dX12_tellCase_92 (fun hp164 eh165 H locs hw hS => ?_)
    have ok166 := wr_78000 bd161 (by decide) (by decide) ok148 kd3 eh165
    have eq167 : hp164 qa900 13 = .int zi130 := Eq.trans (up_at eh165 (Or.inl (kd_ne kd900 kd3 (by decide)))) (Eq.trans (Fr.at (cq := 13013) F149 kd900 (cd_o (by decide)) (by decide)) eq129)
    have eq168 : hp164 qa900 11 = .int zi133 := Eq.trans (up_at eh165 (Or.inl (kd_ne kd900 kd3 (by decide)))) (Eq.trans (Fr.at (cq := 13011) F149 kd900 (cd_o (by decide)) (by decide)) eq132)
    have eq169 : hp164 qa900 32 = .ref qa2 := Eq.trans (up_at eh165 (Or.inl (kd_ne kd900 kd3 (by decide)))) eq156
    have eq170 : hp164 qa900 19 = .int zi5 := Eq.trans (up_at eh165 (Or.inl (kd_ne kd900 kd3 (by decide)))) eq157
    have eq171 : hp164 qa900 24 = .ref qa11 := Eq.trans (up_at eh165 (Or.inl (kd_ne kd900 kd3 (by decide)))) (Eq.trans (Fr.at (cq := 13024) F149 kd900 (cd_o (by decide)) (by decide)) eq137)
    have eq172 : hp164 qa11 (zi5 : Int32).toNatClampNeg = .int zi14 := Eq.trans (up_at eh165 (Or.inl (kd_ne kd12 kd3 (by decide)))) (Eq.trans (Fr.at (cq := 70000) F149 kd12 (cd_a (by decide)) (by decide)) eq139)
    have eq173 : hp164 qa900 20 = .int zi152 := Eq.trans (up_at eh165 (Or.inl (kd_ne kd900 kd3 (by decide)))) eq153
    have eq174 : hp164 qa900 27 = .ref qa29 := Eq.trans (up_at eh165 (Or.inl (kd_ne kd900 kd3 (by decide)))) (Eq.trans (Fr.at (cq := 13027) F149 kd900 (cd_o (by decide)) (by decide)) eq140)
    have eq175 : hp164 qa29 (zi5 : Int32).toNatClampNeg = .int zi32 := Eq.trans (up_at eh165 (Or.inl (kd_ne kd30 kd3 (by decide)))) (Eq.trans (Fr.at (cq := 73000) F149 kd30 (cd_a (by decide)) (by decide)) eq141)
    have eq176 : hp164 qa900 12 = .int zi114 := Eq.trans (up_at eh165 (Or.inl (kd_ne kd900 kd3 (by decide)))) (Eq.trans (Fr.at (cq := 13012) F149 kd900 (cd_o (by decide)) (by decide)) eq144)
    rw [hQ]
    exact kz_v hx hb hr hlocks hS hp164 hw ⟨ok166, (Fr.put (cq := 78000) (Fr.tr (Fr.tr (Fr.put (cq := 80000) (Fr.tr (Fr.tr (Fr.put (cq := 79000) (Fr.tr (Fr.tr (Fr.rf) F46 (by decide)) F64 (by decide)) eh77 kd61 (cd_a (by decide)) (by decide)) F83 (by decide)) F101 (by decide)) eh117 kd97 (cd_a (by decide)) (by decide)) F123 (by decide)) F149 (by decide)) eh165 kd3 (cd_a (by decide)) (by decide)), (by simp only [gi_of eq16, gi_of eq167, gi_of eq168, gi_of eq25]; omega), (by simp only [gi_of eq16, gi_of eq167]; omega), (by simp only [ge_of eq169 eq170 (hp_self eh165), ge_of eq171 eq170 eq172, ge_of eq174 eq170 eq175, gi_of eq173]; omega), (by simp only [gi_of eq167, gi_of eq176]; omega)⟩ (Nat.le_of_ble_eq_true rfl) (Nat.le_of_ble_eq_true rfl) dX12_tellCase_93
  · skip
    have bd177 : (1 : Int) ≤ zi130.toInt ∧ zi130.toInt ≤ 2 := r_lt_y (Int32.not_le.mp cn135) bc_0 bd131 (by decide) (by decide)
    rw [hQ]
    exact kz_v hx hb hr hlocks hS hp121 hw ⟨ok122, (Fr.tr (Fr.put (cq := 80000) (Fr.tr (Fr.tr (Fr.put (cq := 79000) (Fr.tr (Fr.tr (Fr.rf) F46 (by decide)) F64 (by decide)) eh77 kd61 (cd_a (by decide)) (by decide)) F83 (by decide)) F101 (by decide)) eh117 kd97 (cd_a (by decide)) (by decide)) F123 (by decide)), (by simp only [gi_of eq129, gi_of eq132, gi_of eq16, gi_of eq25]; omega), (by simp only [gi_of eq129, gi_of eq16]; omega), (by simp only [ge_of eq137 eq138 eq139, ge_of eq140 eq138 eq141, ge_of eq142 eq138 eq143, gi_of eq136]; omega), (by simp only [gi_of eq129, gi_of eq144]; omega)⟩ (Nat.le_of_ble_eq_true rfl) (Nat.le_of_ble_eq_true rfl) dX12_tellCase_64

set_option maxRecDepth 100000 in
set_option maxHeartbeats 4000000 in
theorem cX12_emit_0 (l : Launch) (G : va_G) (cy : Nat → ClassId) (ev : Ew) (K ln : Nat → Nat) (Ls : List Nat) (hW : SW K ln Ls) (sz : Nat) (hp0 : Nat → Nat → Value) (ok0 : Ok K hp0) (qa900 : Nat) (zi901 : Int32) (zi902 : Int32) (kd900 : K qa900 = 13) (bd901 : ((0 : Int) ≤ zi901.toInt ∧ zi901.toInt ≤ 5)) (rp0 : (gi hp0 qa900 38) ≤ 839) : Met l yX12_emit (WS yX12_emit cX12_emit 3 none) { frames := 0, cells := 0, slots := 0, locals := 0 } (PB2 [.ref qa900, .int zi901, .int zi902] sz G cy ev (va_pl Ls (cellOf cy K ln hp0))) (QBv (S := (Nat → Nat → Value)) (fun u : (Nat → Nat → Value) => Ok K u ∧ Fr [13038, 84000, 85000] K hp0 u ∧ (∃ z : Int32, u qa900 38 = .int z ∧ ((1 : Int) ≤ z.toInt ∧ z.toInt ≤ 840)) ∧ (EMI hp0 u qa900 zi901 zi902) ∧ ((gi u qa900 38) = (gi hp0 qa900 38) + 1)) G (fun u => va_pl Ls (cellOf cy K ln u)) (va_A (va_pl Ls (cellOf cy K ln hp0)) sz)) 0 0 (va_A (va_pl Ls (cellOf cy K ln hp0)) sz) := by
  refine met_of2 (y := yX12_emit) (L := 3) (av := [.ref qa900, .int zi901, .int zi902]) (Qc := fun A => QBv (S := (Nat → Nat → Value)) (fun u : (Nat → Nat → Value) => Ok K u ∧ Fr [13038, 84000, 85000] K hp0 u ∧ (∃ z : Int32, u qa900 38 = .int z ∧ ((1 : Int) ≤ z.toInt ∧ z.toInt ≤ 840)) ∧ (EMI hp0 u qa900 zi901 zi902) ∧ ((gi u qa900 38) = (gi hp0 qa900 38) + 1)) G (fun u => va_pl Ls (cellOf cy K ln u)) A) (plainFor_of_name (by decide)) (Nat.le_of_ble_eq_true rfl) ?_
  intro p e s m below meth c hsz hx hb hr hml hown hT hlocks hin hK A hA hE hw hS ls hl
  have hw : PW G cy K ln Ls A hp0 s.heap := hw
  have hown : s.vm.findClass "LieClockModel" = some m.cls := hown
  have hl : lv_has ls 3 [(0, .ref qa900), (1, .int zi901), (2, .int zi902)] := hl
  obtain ⟨Q, hQ⟩ : ∃ Q : State → Prop, Q = MQ below (QBv (S := (Nat → Nat → Value)) (fun u : (Nat → Nat → Value) => Ok K u ∧ Fr [13038, 84000, 85000] K hp0 u ∧ (∃ z : Int32, u qa900 38 = .int z ∧ ((1 : Int) ≤ z.toInt ∧ z.toInt ≤ 840)) ∧ (EMI hp0 u qa900 zi901 zi902) ∧ ((gi u qa900 38) = (gi hp0 qa900 38) + 1)) G (fun u => va_pl Ls (cellOf cy K ln u)) A) ([.ref qa900, .int zi901, .int zi902] : List Value).toArray s 0 0 A := ⟨_, rfl⟩
  rw [← hQ]
  obtain ⟨zi2, eq1, bd3⟩ := rd_13038 ok0 kd900
  have rq0 := rp0
  simp only [gi_of eq1] at rq0
  have bd4 : (0 : Int) ≤ zi2.toInt ∧ zi2.toInt ≤ 839 := (by omega)
  refine lv_aload_n hx hb dX12_emit_0 rfl (lv_at hl 0 rfl) ?_
  obtain ⟨qa6, eq5, kd7⟩ := rd_13039 ok0 kd900
  obtain ⟨qa9, eq8, kd10⟩ := rd_13040 ok0 kd900
  refine p_get (ci := 12) (v := .ref qa6) (C := RX12) (T := TX12) (N := 69) hx hb hT iw_X12 hown hK hw hW kd900 (by decide) rfl rfl 39 (by decide) eq5 (hT _ tb_1413) (fun _ h9 => h9) dX12_emit_1 ?_
  refine lv_aload_n hx hb dX12_emit_4 rfl (lv_at hl 0 rfl) ?_
  refine p_get (ci := 12) (v := .int zi2) (C := RX12) (T := TX12) (N := 69) hx hb hT iw_X12 hown hK hw hW kd900 (by decide) rfl rfl 38 (by decide) eq1 (hT _ tb_1412) (fun _ h9 => h9) dX12_emit_5 ?_
  refine lv_iload_n hx hb dX12_emit_8 rfl (lv_at hl 1 rfl) ?_
  refine p_iast (x := zi901) hx hb hK hw hS hW kd7 (by decide) rfl (hW.len kd7 (n := 840) rfl (by decide)) (vp_b bd4 (by decide) (by decide)) dX12_emit_9 (fun hp11 eh12 H locs hw hS => ?_)
  have ok13 := wr_84000 bd901 (by decide) (by decide) ok0 kd7 eh12
  refine lv_aload_n hx hb dX12_emit_10 rfl (lv_at hl 0 rfl) ?_
  have eq14 : hp11 qa900 40 = .ref qa9 := Eq.trans (up_at eh12 (Or.inl (kd_ne kd900 kd7 (by decide)))) eq8
  refine p_get (ci := 12) (v := .ref qa9) (C := RX12) (T := TX12) (N := 69) hx hb hT iw_X12 hown hK hw hW kd900 (by decide) rfl rfl 40 (by decide) eq14 (hT _ tb_1414) (fun _ h9 => h9) dX12_emit_11 ?_
  refine lv_aload_n hx hb dX12_emit_14 rfl (lv_at hl 0 rfl) ?_
  have eq15 : hp11 qa900 38 = .int zi2 := Eq.trans (up_at eh12 (Or.inl (kd_ne kd900 kd7 (by decide)))) eq1
  refine p_get (ci := 12) (v := .int zi2) (C := RX12) (T := TX12) (N := 69) hx hb hT iw_X12 hown hK hw hW kd900 (by decide) rfl rfl 38 (by decide) eq15 (hT _ tb_1412) (fun _ h9 => h9) dX12_emit_15 ?_
  refine lv_iload_n hx hb dX12_emit_18 rfl (lv_at hl 2 rfl) ?_
  refine p_iast (x := zi902) hx hb hK hw hS hW kd10 (by decide) rfl (hW.len kd10 (n := 840) rfl (by decide)) (vp_b bd4 (by decide) (by decide)) dX12_emit_19 (fun hp16 eh17 H locs hw hS => ?_)
  have ok18 := wr_85000 ok13 kd10 eh17
  refine lv_aload_n hx hb dX12_emit_20 rfl (lv_at hl 0 rfl) ?_
  refine lv_dup hx hb dX12_emit_21 rfl ?_
  have eq19 : hp16 qa900 38 = .int zi2 := Eq.trans (up_at eh17 (Or.inl (kd_ne kd900 kd10 (by decide)))) eq15
  refine p_get (ci := 12) (v := .int zi2) (C := RX12) (T := TX12) (N := 69) hx hb hT iw_X12 hown hK hw hW kd900 (by decide) rfl rfl 38 (by decide) eq19 (hT _ tb_1412) (fun _ h9 => h9) dX12_emit_22 ?_
  refine lv_iconst (v := 1) hx hb dX12_emit_25 (by decide) ?_
  refine lv_iadd hx hb dX12_emit_26 (lv_topi (fun zi20 ea21 => ?_))
  have bd22 : (1 : Int) ≤ zi20.toInt ∧ zi20.toInt ≤ 840 := b_iadd ea21 bd4 bc_1 (by decide) (by decide) (by decide) (by decide)
  have qe23 : zi20.toInt = (zi2 : Int32).toInt + (1 : Int32).toInt := e_iadd ea21 bd4 bc_1 (by decide) (by decide)
  have qe24 : zi20.toInt = zi2.toInt + 1 := by have ha : (1 : Int32).toInt = 1 := (by decide); rw [ha] at qe23; exact qe23
  refine p_put (ci := 12) (v := .int zi20) (ty := .int) (C := RX12) (T := TX12) (N := 69) hx hb hT iw_X12 tyX12 tyX12_ok nmX12 hown hK hw hS hW kd900 (by decide) rfl rfl 38 (by decide) (hT _ tb_1412) (fun _ h9 => h9) rfl (by decide +kernel) rfl rfl dX12_emit_27 (fun hp25 eh26 H locs hw hS => ?_)
  have ok27 := wr_13038 bd22 (by decide) (by decide) ok18 kd900 eh26
  have eq28 : hp25 qa900 39 = .ref qa6 := Eq.trans (up_at eh26 (Or.inr (by decide))) (Eq.trans (up_at eh17 (Or.inl (kd_ne kd900 kd10 (by decide)))) (Eq.trans (up_at eh12 (Or.inl (kd_ne kd900 kd7 (by decide)))) eq5))
  have eq29 : hp25 qa900 40 = .ref qa9 := Eq.trans (up_at eh26 (Or.inr (by decide))) (Eq.trans (up_at eh17 (Or.inl (kd_ne kd900 kd10 (by decide)))) eq14)
  rw [hQ]
  exact kz_v hx hb hr hlocks hS hp25 hw ⟨ok27, (Fr.put (cq := 13038) (Fr.put (cq := 85000) (Fr.put (cq := 84000) (Fr.rf) eh12 kd7 (cd_a (by decide)) (by decide)) eh17 kd10 (cd_a (by decide)) (by decide)) eh26 kd900 (cd_o (by decide)) (by decide)), ⟨_, (hp_self eh26), b_wid2 bd22 (by decide) (by decide)⟩, (⟨(by rw [show (gi hp0 qa900 38).toNat = (zi2 : Int32).toNatClampNeg from by rw [gi_of eq1]; exact clamp_toNat (by omega)]; exact (mA_up eq5 eq28 rfl eh12 (Eq.trans (show hp25 qa6 = hp16 qa6 from (by rw [eh26]; exact up2_row (kd_ne kd7 kd900 (by decide)))) (show hp16 qa6 = hp11 qa6 from (by rw [eh17]; exact up2_row (kd_ne kd7 kd10 (by decide))))))), (by rw [show (gi hp0 qa900 38).toNat = (zi2 : Int32).toNatClampNeg from by rw [gi_of eq1]; exact clamp_toNat (by omega)]; exact (mA_up eq8 eq29 (show hp11 qa9 = hp0 qa9 from (by rw [eh12]; exact up2_row (kd_ne kd10 kd7 (by decide)))) eh17 (show hp25 qa9 = hp16 qa9 from (by rw [eh26]; exact up2_row (kd_ne kd10 kd900 (by decide)))))), (by rw [gi_of (hp_self eh26), gi_of eq1] <;> (omega))⟩), (by simp only [gi_of (hp_self eh26), gi_of eq1]; omega)⟩ (Nat.le_of_ble_eq_true rfl) (Nat.le_of_ble_eq_true rfl) dX12_emit_30

set_option maxRecDepth 100000 in
set_option maxHeartbeats 4000000 in
theorem cX12_unit_0 (l : Launch) (G : va_G) (cy : Nat → ClassId) (ev : Ew) (K ln : Nat → Nat) (Ls : List Nat) (hW : SW K ln Ls) (sz : Nat) (hp0 : Nat → Nat → Value) (ok0 : Ok K hp0) (qa900 : Nat) (gc0 : Int) (kd900 : K qa900 = 13) (rp0 : (gi hp0 qa900 38) + (gi hp0 qa900 45) ≤ 420*(gi hp0 qa900 19) + (gi hp0 qa900 11) + (gi hp0 qa900 13)) (pdEI0 : EIx hp0 qa900 gc0 0) (pdLPx : LPx hp0 qa900) : Met l yX12_unit (WS yX12_unit cX12_unit 1 none) { frames := 2, cells := 0, slots := 0, locals := 41 } (PB2 [.ref qa900] sz G cy ev (va_pl Ls (cellOf cy K ln hp0))) (QBv (S := (Nat → Nat → Value)) (fun u : (Nat → Nat → Value) => Ok K u ∧ Fr [13011, 13013, 13014, 13038, 84000, 85000] K hp0 u ∧ (LPx u qa900) ∧ (gi u qa900 13 = 0 → EIx u qa900 gc0 1) ∧ (4*(gi u qa900 11) + (gi u qa900 13) ≥ 4*(gi hp0 qa900 11) + (gi hp0 qa900 13)) ∧ ((gi u qa900 13) ≥ (gi hp0 qa900 13)) ∧ (4*(gi u qa900 11) + (gi u qa900 13) ≥ 4*(gi hp0 qa900 11) + 1) ∧ ((gi u qa900 38) + (gi u qa900 45) ≤ 420*(gi u qa900 19) + (gi u qa900 11) + (gi u qa900 13))) G (fun u => va_pl Ls (cellOf cy K ln u)) (va_A (va_pl Ls (cellOf cy K ln hp0)) sz)) 0 0 (va_A (va_pl Ls (cellOf cy K ln hp0)) sz) := by
  refine met_of2 (y := yX12_unit) (L := 1) (av := [.ref qa900]) (Qc := fun A => QBv (S := (Nat → Nat → Value)) (fun u : (Nat → Nat → Value) => Ok K u ∧ Fr [13011, 13013, 13014, 13038, 84000, 85000] K hp0 u ∧ (LPx u qa900) ∧ (gi u qa900 13 = 0 → EIx u qa900 gc0 1) ∧ (4*(gi u qa900 11) + (gi u qa900 13) ≥ 4*(gi hp0 qa900 11) + (gi hp0 qa900 13)) ∧ ((gi u qa900 13) ≥ (gi hp0 qa900 13)) ∧ (4*(gi u qa900 11) + (gi u qa900 13) ≥ 4*(gi hp0 qa900 11) + 1) ∧ ((gi u qa900 38) + (gi u qa900 45) ≤ 420*(gi u qa900 19) + (gi u qa900 11) + (gi u qa900 13))) G (fun u => va_pl Ls (cellOf cy K ln u)) A) (plainFor_of_name (by decide)) (Nat.le_of_ble_eq_true rfl) ?_
  intro p e s m below meth c hsz hx hb hr hml hown hT hlocks hin hK A hA hE hw hS ls hl
  have hw : PW G cy K ln Ls A hp0 s.heap := hw
  have hown : s.vm.findClass "LieClockModel" = some m.cls := hown
  have hl : lv_has ls 1 [(0, .ref qa900)] := hl
  obtain ⟨Q, hQ⟩ : ∃ Q : State → Prop, Q = MQ below (QBv (S := (Nat → Nat → Value)) (fun u : (Nat → Nat → Value) => Ok K u ∧ Fr [13011, 13013, 13014, 13038, 84000, 85000] K hp0 u ∧ (LPx u qa900) ∧ (gi u qa900 13 = 0 → EIx u qa900 gc0 1) ∧ (4*(gi u qa900 11) + (gi u qa900 13) ≥ 4*(gi hp0 qa900 11) + (gi hp0 qa900 13)) ∧ ((gi u qa900 13) ≥ (gi hp0 qa900 13)) ∧ (4*(gi u qa900 11) + (gi u qa900 13) ≥ 4*(gi hp0 qa900 11) + 1) ∧ ((gi u qa900 38) + (gi u qa900 45) ≤ 420*(gi u qa900 19) + (gi u qa900 11) + (gi u qa900 13))) G (fun u => va_pl Ls (cellOf cy K ln u)) A) ([.ref qa900] : List Value).toArray s 0 0 A := ⟨_, rfl⟩
  rw [← hQ]
  obtain ⟨zi2, eq1, bd3⟩ := rd_13038 ok0 kd900
  obtain ⟨zi5, eq4, bd6⟩ := rd_13013 ok0 kd900
  obtain ⟨zi8, eq7, bd9⟩ := rd_13019 ok0 kd900
  obtain ⟨zi11, eq10, bd12⟩ := rd_13011 ok0 kd900
  obtain ⟨zi14, eq13, bd15⟩ := rd_13045 ok0 kd900
  have rq0 := rp0
  simp only [gi_of eq1, gi_of eq4, gi_of eq7, gi_of eq10, gi_of eq13] at rq0
  refine lv_aload_n hx hb dX12_unit_0 rfl (lv_at hl 0 rfl) ?_
  refine lv_iconst (v := 2) hx hb dX12_unit_1 (by decide) ?_
  obtain ⟨qa17, eq16, kd18⟩ := rd_13005 ok0 kd900
  obtain ⟨zi20, eq19⟩ := rd_62000 ok0 kd18 ((zi11 : Int32).toNatClampNeg)
  refine kq_i hw hS hA (va_runV (As := [.int 2]) (rest := []) ⟨hx, hb, hml, hown, hT⟩ (cX12_is_0 l G cy ev K ln Ls hW _ hp0 ok0 qa900 2 kd900) (cwV 1 hT (good_V tb_1623 tb_1620 tb_1622 tb_52 tb_122) rfl rfl rfl (by decide +kernel) ⟨Nat.le_of_ble_eq_true rfl, Nat.le_of_ble_eq_true rfl⟩) (pool_preV (ci := 12) hK hE hS hA hw hW kd900 (by decide) rfl) rfl rfl hl.1 rfl (lv_room (Nat.le_of_ble_eq_true rfl)) dX12_unit_2 ⟨Nat.le_of_ble_eq_true rfl, Nat.le_of_ble_eq_true rfl⟩) (fun zi25 hp21 H locs hq24 hw hS => ?_)
  obtain ⟨ok22, F23, bd26, hc27, rh28, rh29, rh30⟩ := hq24
  obtain rfl : hp0 = hp21 := (Fr.nil F23).symm
  have hw : PW G cy K ln Ls A hp0 H := hw
  rcases b01 bd26 with cn31 | cn31
  · skip
    subst cn31
    have rh32 := rh30 rfl
    simp only [ge_of eq16 eq10 eq19, gi_of eq4, toi bc_2] at rh32
    refine lv_if_eq (tgt := 29) hx hb dX12_unit_5 (by decide) (fun _ => ?_) (fun c => absurd (d_eq bc_0 bc_0) c)
    refine lv_aload_n hx hb dX12_unit_29 rfl (lv_at hl 0 rfl) ?_
    refine p_get (ci := 12) (v := .int zi5) (C := RX12) (T := TX12) (N := 69) hx hb hT iw_X12 hown hK hw hW kd900 (by decide) rfl rfl 13 (by decide) eq4 (hT _ tb_1387) (fun _ h9 => h9) dX12_unit_30 ?_
    refine lv_if_ne (tgt := 110) hx hb dX12_unit_33 (by decide) (fun cn33 => ?_) (fun cn33 => ?_)
    · skip
      have tf34 : (zi5 : Int32).toInt ≠ (0 : Int32).toInt := fun e => cn33 (Int32.toInt_inj.mp e)
      have := toi bc_0
      have bd35 : (1 : Int) ≤ zi5.toInt ∧ zi5.toInt ≤ 2 := r_ne_lo cn33 bd6 (toi bc_0) (by decide) (by decide)
      refine lv_aload_n hx hb dX12_unit_110 rfl (lv_at hl 0 rfl) ?_
      refine lv_iconst (v := 1) hx hb dX12_unit_111 (by decide) ?_
      refine kq_v hw hS hA (va_runV (As := [.int 1]) (rest := []) ⟨hx, hb, hml, hown, hT⟩ (cX12_fail_0 l G cy ev K ln Ls hW _ hp0 ok0 qa900 1 kd900 (b_wid2 bc_1 (by decide) (by decide))) (cwV 1 hT (good_V tb_1635 tb_1632 tb_1634 tb_55 tb_122) rfl rfl rfl (by decide +kernel) ⟨Nat.le_of_ble_eq_true rfl, Nat.le_of_ble_eq_true rfl⟩) (pool_preV (ci := 12) hK hE hS hA hw hW kd900 (by decide) rfl) rfl rfl hl.1 rfl (lv_room (Nat.le_of_ble_eq_true rfl)) dX12_unit_112 ⟨Nat.le_of_ble_eq_true rfl, Nat.le_of_ble_eq_true rfl⟩) (fun hp36 H locs hq39 hw hS => ?_)
      obtain ⟨ok37, F38, ⟨zi41, eq42, bd43⟩, rh44⟩ := hq39
      have hw : PW G cy K ln Ls A hp36 H := hw
      simp only [gi_of eq4, gi_of eq42] at rh44
      have pd45 : LPx hp36 qa900 := LP_fr ok0 kd900 (show Fr [13013, 13014] K hp0 hp36 from (Fr.tr (Fr.rf) F38 (by decide))) (by decide) pdLPx
      have eq46 : hp36 qa900 11 = .int zi11 := Eq.trans (Fr.at (cq := 13011) F38 kd900 (cd_o (by decide)) (by decide)) eq10
      have eq47 : hp36 qa900 38 = .int zi2 := Eq.trans (Fr.at (cq := 13038) F38 kd900 (cd_o (by decide)) (by decide)) eq1
      have eq48 : hp36 qa900 19 = .int zi8 := Eq.trans (Fr.at (cq := 13019) F38 kd900 (cd_o (by decide)) (by decide)) eq7
      have eq49 : hp36 qa900 45 = .int zi14 := Eq.trans (Fr.at (cq := 13045) F38 kd900 (cd_o (by decide)) (by decide)) eq13
      rw [hQ]
      exact kz_v hx hb hr hlocks hS hp36 hw ⟨ok37, (Fr.tr (Fr.rf) F38 (by decide)), (pd45), (fun h => absurd h (by rw [gi_of eq42]; omega)), (by simp only [gi_of eq10, gi_of eq4, gi_of eq42, gi_of eq46]; omega), (by simp only [gi_of eq4, gi_of eq42]; omega), (by simp only [gi_of eq10, gi_of eq42, gi_of eq46]; omega), (by simp only [gi_of eq42, gi_of eq46, gi_of eq47, gi_of eq48, gi_of eq49]; omega)⟩ (Nat.le_of_ble_eq_true rfl) (Nat.le_of_ble_eq_true rfl) dX12_unit_115
    · skip
      have bd50 : (0 : Int) ≤ zi5.toInt ∧ zi5.toInt ≤ 0 := r_eq_x cn33 bd6 bc_0 (by decide) (by decide)
      refine lv_aload_n hx hb dX12_unit_36 rfl (lv_at hl 0 rfl) ?_
      refine p_get (ci := 12) (v := .ref qa17) (C := RX12) (T := TX12) (N := 69) hx hb hT iw_X12 hown hK hw hW kd900 (by decide) rfl rfl 5 (by decide) eq16 (hT _ tb_1379) (fun _ h9 => h9) dX12_unit_37 ?_
      refine lv_aload_n hx hb dX12_unit_40 rfl (lv_at hl 0 rfl) ?_
      refine p_get (ci := 12) (v := .int zi11) (C := RX12) (T := TX12) (N := 69) hx hb hT iw_X12 hown hK hw hW kd900 (by decide) rfl rfl 11 (by decide) eq10 (hT _ tb_1385) (fun _ h9 => h9) dX12_unit_41 ?_
      refine p_iald (v := zi20) hx hb hK hw hW kd18 (by decide) rfl (hW.len kd18 (n := 403) rfl (by decide)) (vp_b bd12 (by decide) (by decide)) eq19 dX12_unit_44 ?_
      refine lv_bipush (v := 34) hx hb dX12_unit_45 (by decide) ?_
      refine lv_icmp_lt (tgt := 64) hx hb dX12_unit_47 (by decide) (fun cn51 => ?_) (fun cn51 => ?_)
      · skip
        have bd52 : (-2147483648 : Int) ≤ zi20.toInt ∧ zi20.toInt ≤ 33 := r_lt_x cn51 (b_all zi20) bc_34 (by decide) (by decide)
        refine lv_aload_n hx hb dX12_unit_64 rfl (lv_at hl 0 rfl) ?_
        refine lv_bipush (v := 23) hx hb dX12_unit_65 (by decide) ?_
        refine kq_i hw hS hA (va_runV (As := [.int 23]) (rest := []) ⟨hx, hb, hml, hown, hT⟩ (cX12_is_0 l G cy ev K ln Ls hW _ hp0 ok0 qa900 23 kd900) (cwV 1 hT (good_V tb_1623 tb_1620 tb_1622 tb_52 tb_122) rfl rfl rfl (by decide +kernel) ⟨Nat.le_of_ble_eq_true rfl, Nat.le_of_ble_eq_true rfl⟩) (pool_preV (ci := 12) hK hE hS hA hw hW kd900 (by decide) rfl) rfl rfl hl.1 rfl (lv_room (Nat.le_of_ble_eq_true rfl)) dX12_unit_67 ⟨Nat.le_of_ble_eq_true rfl, Nat.le_of_ble_eq_true rfl⟩) (fun zi57 hp53 H locs hq56 hw hS => ?_)
        obtain ⟨ok54, F55, bd58, hc59, rh60, rh61, rh62⟩ := hq56
        obtain rfl : hp0 = hp53 := (Fr.nil F55).symm
        have hw : PW G cy K ln Ls A hp0 H := hw
        rcases b01 bd58 with cn63 | cn63
        · skip
          subst cn63
          have rh64 := rh62 rfl
          simp only [ge_of eq16 eq10 eq19, gi_of eq4, toi bc_23] at rh64
          refine lv_if_eq (tgt := 110) hx hb dX12_unit_70 (by decide) (fun _ => ?_) (fun c => absurd (d_eq bc_0 bc_0) c)
          refine lv_aload_n hx hb dX12_unit_110 rfl (lv_at hl 0 rfl) ?_
          refine lv_iconst (v := 1) hx hb dX12_unit_111 (by decide) ?_
          refine kq_v hw hS hA (va_runV (As := [.int 1]) (rest := []) ⟨hx, hb, hml, hown, hT⟩ (cX12_fail_0 l G cy ev K ln Ls hW _ hp0 ok0 qa900 1 kd900 (b_wid2 bc_1 (by decide) (by decide))) (cwV 1 hT (good_V tb_1635 tb_1632 tb_1634 tb_55 tb_122) rfl rfl rfl (by decide +kernel) ⟨Nat.le_of_ble_eq_true rfl, Nat.le_of_ble_eq_true rfl⟩) (pool_preV (ci := 12) hK hE hS hA hw hW kd900 (by decide) rfl) rfl rfl hl.1 rfl (lv_room (Nat.le_of_ble_eq_true rfl)) dX12_unit_112 ⟨Nat.le_of_ble_eq_true rfl, Nat.le_of_ble_eq_true rfl⟩) (fun hp65 H locs hq68 hw hS => ?_)
          obtain ⟨ok66, F67, ⟨zi70, eq71, bd72⟩, rh73⟩ := hq68
          have hw : PW G cy K ln Ls A hp65 H := hw
          simp only [gi_of eq4, gi_of eq71] at rh73
          have pd74 : LPx hp65 qa900 := LP_fr ok0 kd900 (show Fr [13013, 13014] K hp0 hp65 from (Fr.tr (Fr.rf) F67 (by decide))) (by decide) pdLPx
          have eq75 : hp65 qa900 11 = .int zi11 := Eq.trans (Fr.at (cq := 13011) F67 kd900 (cd_o (by decide)) (by decide)) eq10
          have eq76 : hp65 qa900 38 = .int zi2 := Eq.trans (Fr.at (cq := 13038) F67 kd900 (cd_o (by decide)) (by decide)) eq1
          have eq77 : hp65 qa900 19 = .int zi8 := Eq.trans (Fr.at (cq := 13019) F67 kd900 (cd_o (by decide)) (by decide)) eq7
          have eq78 : hp65 qa900 45 = .int zi14 := Eq.trans (Fr.at (cq := 13045) F67 kd900 (cd_o (by decide)) (by decide)) eq13
          rw [hQ]
          exact kz_v hx hb hr hlocks hS hp65 hw ⟨ok66, (Fr.tr (Fr.rf) F67 (by decide)), (pd74), (fun h => absurd h (by rw [gi_of eq71]; omega)), (by simp only [gi_of eq10, gi_of eq4, gi_of eq71, gi_of eq75]; omega), (by simp only [gi_of eq4, gi_of eq71]; omega), (by simp only [gi_of eq10, gi_of eq71, gi_of eq75]; omega), (by simp only [gi_of eq71, gi_of eq75, gi_of eq76, gi_of eq77, gi_of eq78]; omega)⟩ (Nat.le_of_ble_eq_true rfl) (Nat.le_of_ble_eq_true rfl) dX12_unit_115
        · skip
          subst cn63
          obtain ⟨zi79, eq80, bd81⟩ := hc59 rfl
          have hx82 : zi5 = zi79 := Value.int.inj (Eq.trans (Eq.symm eq4) eq80)
          subst hx82
          have bd83 : (0 : Int) ≤ zi5.toInt ∧ zi5.toInt ≤ 0 := b_meet bd50 bd81 (by decide) (by decide)
          have rh84 := rh60 rfl
          simp only [ge_of eq16 eq10 eq19, toi bc_23] at rh84
          have rh85 := rh61 rfl
          simp only [gi_of eq4] at rh85
          refine lv_if_eq (tgt := 110) hx hb dX12_unit_70 (by decide) (fun c => absurd c (d_ne bc_1 bc_0 (by decide))) (fun _ => ?_)
          refine lv_aload_n hx hb dX12_unit_73 rfl (lv_at hl 0 rfl) ?_
          refine lv_iconst (v := 1) hx hb dX12_unit_74 (by decide) ?_
          refine lv_aload_n hx hb dX12_unit_75 rfl (lv_at hl 0 rfl) ?_
          refine lv_bipush (v := 23) hx hb dX12_unit_76 (by decide) ?_
          refine kq_i hw hS hA (va_runV (As := [.int 23]) (rest := [.int 1, .ref qa900]) ⟨hx, hb, hml, hown, hT⟩ (cX12_is_0 l G cy ev K ln Ls hW _ hp0 ok0 qa900 23 kd900) (cwV 1 hT (good_V tb_1623 tb_1620 tb_1622 tb_52 tb_122) rfl rfl rfl (by decide +kernel) ⟨Nat.le_of_ble_eq_true rfl, Nat.le_of_ble_eq_true rfl⟩) (pool_preV (ci := 12) hK hE hS hA hw hW kd900 (by decide) rfl) rfl rfl hl.1 rfl (lv_room (Nat.le_of_ble_eq_true rfl)) dX12_unit_78 ⟨Nat.le_of_ble_eq_true rfl, Nat.le_of_ble_eq_true rfl⟩) (fun zi90 hp86 H locs hq89 hw hS => ?_)
          obtain ⟨ok87, F88, bd91, hc92, rh93, rh94, rh95⟩ := hq89
          obtain rfl : hp0 = hp86 := (Fr.nil F88).symm
          have hw : PW G cy K ln Ls A hp0 H := hw
          rcases b01 bd91 with cn96 | cn96
          · skip
            subst cn96
            have rh97 := rh95 rfl
            simp only [ge_of eq16 eq10 eq19, gi_of eq4, toi bc_23] at rh97
            refine lv_if_eq (tgt := 88) hx hb dX12_unit_81 (by decide) (fun _ => ?_) (fun c => absurd (d_eq bc_0 bc_0) c)
            refine lv_aload_n hx hb dX12_unit_88 rfl (lv_at hl 0 rfl) ?_
            refine p_get (ci := 12) (v := .ref qa17) (C := RX12) (T := TX12) (N := 69) hx hb hT iw_X12 hown hK hw hW kd900 (by decide) rfl rfl 5 (by decide) eq16 (hT _ tb_1379) (fun _ h9 => h9) dX12_unit_89 ?_
            refine lv_aload_n hx hb dX12_unit_92 rfl (lv_at hl 0 rfl) ?_
            refine p_get (ci := 12) (v := .int zi11) (C := RX12) (T := TX12) (N := 69) hx hb hT iw_X12 hown hK hw hW kd900 (by decide) rfl rfl 11 (by decide) eq10 (hT _ tb_1385) (fun _ h9 => h9) dX12_unit_93 ?_
            refine p_iald (v := zi20) hx hb hK hw hW kd18 (by decide) rfl (hW.len kd18 (n := 403) rfl (by decide)) (vp_b bd12 (by decide) (by decide)) eq19 dX12_unit_96 ?_
            refine lv_bipush (v := 34) hx hb dX12_unit_97 (by decide) ?_
            refine lv_isub hx hb dX12_unit_99 (lv_topi (fun zi98 ea99 => ?_))
            refine kq_v hw hS hA (va_runV (As := [.int 1, .int zi98]) (rest := []) ⟨hx, hb, hml, hown, hT⟩ (cX12_emit_0 l G cy ev K ln Ls hW _ hp0 ok0 qa900 1 zi98 kd900 (b_wid2 bc_1 (by decide) (by decide)) (by simp only [gi_of eq1]; omega)) (cwV 2 hT (good_V tb_1711 tb_1708 tb_1710 tb_73 tb_122) rfl rfl rfl (by decide +kernel) ⟨Nat.le_of_ble_eq_true rfl, Nat.le_of_ble_eq_true rfl⟩) (pool_preV (ci := 12) hK hE hS hA hw hW kd900 (by decide) rfl) rfl rfl hl.1 rfl (lv_room (Nat.le_of_ble_eq_true rfl)) dX12_unit_100 ⟨Nat.le_of_ble_eq_true rfl, Nat.le_of_ble_eq_true rfl⟩) (fun hp100 H locs hq103 hw hS => ?_)
            obtain ⟨ok101, F102, ⟨zi105, eq106, bd107⟩, xq108, rh109⟩ := hq103
            have hw : PW G cy K ln Ls A hp100 H := hw
            simp only [gi_of eq1, gi_of eq106] at rh109
            have ei110 : EIx hp100 qa900 gc0 1 := EI_unit ok0 kd900 pdEI0 xq108 F102 (by have := toi bc_1; omega)
            have lp111 : LPx hp100 qa900 := LP_emit ok0 kd900 pdLPx xq108 F102 (by rw [gi_of eq1, gi_of eq7]; omega)
            refine lv_aload_n hx hb dX12_unit_103 rfl (lv_at hl 0 rfl) ?_
            have eq112 : hp100 qa900 13 = .int zi5 := Eq.trans (Fr.at (cq := 13013) F102 kd900 (cd_o (by decide)) (by decide)) eq4
            have eq113 : hp100 qa900 11 = .int zi11 := Eq.trans (Fr.at (cq := 13011) F102 kd900 (cd_o (by decide)) (by decide)) eq10
            refine kq_v hw hS hA (va_runV (As := []) (rest := []) ⟨hx, hb, hml, hown, hT⟩ (cX12_goesOn_0 l G cy ev K ln Ls hW _ hp100 ok101 qa900 kd900) (cwV 0 hT (good_V tb_1639 tb_1636 tb_1638 tb_56 tb_122) rfl rfl rfl (by decide +kernel) ⟨Nat.le_of_ble_eq_true rfl, Nat.le_of_ble_eq_true rfl⟩) (pool_preV (ci := 12) hK hE hS hA hw hW kd900 (by decide) rfl) rfl rfl hl.1 rfl (lv_room (Nat.le_of_ble_eq_true rfl)) dX12_unit_104 ⟨Nat.le_of_ble_eq_true rfl, Nat.le_of_ble_eq_true rfl⟩) (fun hp114 H locs hq117 hw hS => ?_)
            obtain ⟨ok115, F116, ⟨zi119, eq120, bd121⟩, rh122, rh123, rh124⟩ := hq117
            have hw : PW G cy K ln Ls A hp114 H := hw
            obtain ⟨zi126, eq125, bd127⟩ := rd_13013 ok115 kd900
            simp only [gi_of eq112, gi_of eq113, gi_of eq120, gi_of eq125] at rh122
            simp only [gi_of eq112, gi_of eq125] at rh123
            simp only [gi_of eq113, gi_of eq120, gi_of eq125] at rh124
            refine lv_goto (tgt := 115) hx hb dX12_unit_107 (by decide) ?_
            have pd128 : LPx hp114 qa900 := LP_fr ok101 kd900 (show Fr [13011, 13013, 13014] K hp100 hp114 from (Fr.tr (Fr.rf) F116 (by decide))) (by decide) lp111
            have pd129 : EIx hp114 qa900 gc0 1 := EI_fr ok101 kd900 (show Fr [13011, 13013, 13014] K hp100 hp114 from (Fr.tr (Fr.rf) F116 (by decide))) (by decide) ei110
            have eq130 : hp114 qa900 38 = .int zi105 := Eq.trans (Fr.at (cq := 13038) F116 kd900 (cd_o (by decide)) (by decide)) eq106
            have eq131 : hp114 qa900 19 = .int zi8 := Eq.trans (Fr.at (cq := 13019) F116 kd900 (cd_o (by decide)) (by decide)) (Eq.trans (Fr.at (cq := 13019) F102 kd900 (cd_o (by decide)) (by decide)) eq7)
            have eq132 : hp114 qa900 45 = .int zi14 := Eq.trans (Fr.at (cq := 13045) F116 kd900 (cd_o (by decide)) (by decide)) (Eq.trans (Fr.at (cq := 13045) F102 kd900 (cd_o (by decide)) (by decide)) eq13)
            rw [hQ]
            exact kz_v hx hb hr hlocks hS hp114 hw ⟨ok115, (Fr.tr (Fr.tr (Fr.rf) F102 (by decide)) F116 (by decide)), (pd128), (fun _ => pd129), (by simp only [gi_of eq10, gi_of eq120, gi_of eq125, gi_of eq4]; omega), (by simp only [gi_of eq125, gi_of eq4]; omega), (by simp only [gi_of eq10, gi_of eq120, gi_of eq125]; omega), (by simp only [gi_of eq120, gi_of eq125, gi_of eq130, gi_of eq131, gi_of eq132]; omega)⟩ (Nat.le_of_ble_eq_true rfl) (Nat.le_of_ble_eq_true rfl) dX12_unit_115
          · skip
            subst cn96
            obtain ⟨zi133, eq134, bd135⟩ := hc92 rfl
            have hx136 : zi5 = zi133 := Value.int.inj (Eq.trans (Eq.symm eq4) eq134)
            subst hx136
            have bd137 : (0 : Int) ≤ zi5.toInt ∧ zi5.toInt ≤ 0 := b_meet bd83 bd135 (by decide) (by decide)
            have rh138 := rh93 rfl
            simp only [ge_of eq16 eq10 eq19, toi bc_23] at rh138
            have rh139 := rh94 rfl
            simp only [gi_of eq4] at rh139
            refine lv_if_eq (tgt := 88) hx hb dX12_unit_81 (by decide) (fun c => absurd c (d_ne bc_1 bc_0 (by decide))) (fun _ => ?_)
            refine lv_iconst (v := 4) hx hb dX12_unit_84 (by decide) ?_
            refine lv_goto (tgt := 100) hx hb dX12_unit_85 (by decide) ?_
            refine kq_v hw hS hA (va_runV (As := [.int 1, .int 4]) (rest := []) ⟨hx, hb, hml, hown, hT⟩ (cX12_emit_0 l G cy ev K ln Ls hW _ hp0 ok0 qa900 1 4 kd900 (b_wid2 bc_1 (by decide) (by decide)) (by simp only [gi_of eq1]; omega)) (cwV 2 hT (good_V tb_1711 tb_1708 tb_1710 tb_73 tb_122) rfl rfl rfl (by decide +kernel) ⟨Nat.le_of_ble_eq_true rfl, Nat.le_of_ble_eq_true rfl⟩) (pool_preV (ci := 12) hK hE hS hA hw hW kd900 (by decide) rfl) rfl rfl hl.1 rfl (lv_room (Nat.le_of_ble_eq_true rfl)) dX12_unit_100 ⟨Nat.le_of_ble_eq_true rfl, Nat.le_of_ble_eq_true rfl⟩) (fun hp140 H locs hq143 hw hS => ?_)
            obtain ⟨ok141, F142, ⟨zi145, eq146, bd147⟩, xq148, rh149⟩ := hq143
            have hw : PW G cy K ln Ls A hp140 H := hw
            simp only [gi_of eq1, gi_of eq146] at rh149
            have ei150 : EIx hp140 qa900 gc0 1 := EI_unit ok0 kd900 pdEI0 xq148 F142 (by have := toi bc_1; have := toi bc_4; omega)
            have lp151 : LPx hp140 qa900 := LP_emit ok0 kd900 pdLPx xq148 F142 (by rw [gi_of eq1, gi_of eq7]; omega)
            refine lv_aload_n hx hb dX12_unit_103 rfl (lv_at hl 0 rfl) ?_
            have eq152 : hp140 qa900 13 = .int zi5 := Eq.trans (Fr.at (cq := 13013) F142 kd900 (cd_o (by decide)) (by decide)) eq4
            have eq153 : hp140 qa900 11 = .int zi11 := Eq.trans (Fr.at (cq := 13011) F142 kd900 (cd_o (by decide)) (by decide)) eq10
            refine kq_v hw hS hA (va_runV (As := []) (rest := []) ⟨hx, hb, hml, hown, hT⟩ (cX12_goesOn_0 l G cy ev K ln Ls hW _ hp140 ok141 qa900 kd900) (cwV 0 hT (good_V tb_1639 tb_1636 tb_1638 tb_56 tb_122) rfl rfl rfl (by decide +kernel) ⟨Nat.le_of_ble_eq_true rfl, Nat.le_of_ble_eq_true rfl⟩) (pool_preV (ci := 12) hK hE hS hA hw hW kd900 (by decide) rfl) rfl rfl hl.1 rfl (lv_room (Nat.le_of_ble_eq_true rfl)) dX12_unit_104 ⟨Nat.le_of_ble_eq_true rfl, Nat.le_of_ble_eq_true rfl⟩) (fun hp154 H locs hq157 hw hS => ?_)
            obtain ⟨ok155, F156, ⟨zi159, eq160, bd161⟩, rh162, rh163, rh164⟩ := hq157
            have hw : PW G cy K ln Ls A hp154 H := hw
            obtain ⟨zi166, eq165, bd167⟩ := rd_13013 ok155 kd900
            simp only [gi_of eq152, gi_of eq153, gi_of eq160, gi_of eq165] at rh162
            simp only [gi_of eq152, gi_of eq165] at rh163
            simp only [gi_of eq153, gi_of eq160, gi_of eq165] at rh164
            refine lv_goto (tgt := 115) hx hb dX12_unit_107 (by decide) ?_
            have pd168 : LPx hp154 qa900 := LP_fr ok141 kd900 (show Fr [13011, 13013, 13014] K hp140 hp154 from (Fr.tr (Fr.rf) F156 (by decide))) (by decide) lp151
            have pd169 : EIx hp154 qa900 gc0 1 := EI_fr ok141 kd900 (show Fr [13011, 13013, 13014] K hp140 hp154 from (Fr.tr (Fr.rf) F156 (by decide))) (by decide) ei150
            have eq170 : hp154 qa900 38 = .int zi145 := Eq.trans (Fr.at (cq := 13038) F156 kd900 (cd_o (by decide)) (by decide)) eq146
            have eq171 : hp154 qa900 19 = .int zi8 := Eq.trans (Fr.at (cq := 13019) F156 kd900 (cd_o (by decide)) (by decide)) (Eq.trans (Fr.at (cq := 13019) F142 kd900 (cd_o (by decide)) (by decide)) eq7)
            have eq172 : hp154 qa900 45 = .int zi14 := Eq.trans (Fr.at (cq := 13045) F156 kd900 (cd_o (by decide)) (by decide)) (Eq.trans (Fr.at (cq := 13045) F142 kd900 (cd_o (by decide)) (by decide)) eq13)
            rw [hQ]
            exact kz_v hx hb hr hlocks hS hp154 hw ⟨ok155, (Fr.tr (Fr.tr (Fr.rf) F142 (by decide)) F156 (by decide)), (pd168), (fun _ => pd169), (by simp only [gi_of eq10, gi_of eq160, gi_of eq165, gi_of eq4]; omega), (by simp only [gi_of eq165, gi_of eq4]; omega), (by simp only [gi_of eq10, gi_of eq160, gi_of eq165]; omega), (by simp only [gi_of eq160, gi_of eq165, gi_of eq170, gi_of eq171, gi_of eq172]; omega)⟩ (Nat.le_of_ble_eq_true rfl) (Nat.le_of_ble_eq_true rfl) dX12_unit_115
      · skip
        have bd173 : (34 : Int) ≤ zi20.toInt ∧ zi20.toInt ≤ 2147483647 := r_le_y (Int32.not_lt.mp cn51) bc_34 (b_all zi20) (by decide) (by decide)
        refine lv_aload_n hx hb dX12_unit_50 rfl (lv_at hl 0 rfl) ?_
        refine p_get (ci := 12) (v := .ref qa17) (C := RX12) (T := TX12) (N := 69) hx hb hT iw_X12 hown hK hw hW kd900 (by decide) rfl rfl 5 (by decide) eq16 (hT _ tb_1379) (fun _ h9 => h9) dX12_unit_51 ?_
        refine lv_aload_n hx hb dX12_unit_54 rfl (lv_at hl 0 rfl) ?_
        refine p_get (ci := 12) (v := .int zi11) (C := RX12) (T := TX12) (N := 69) hx hb hT iw_X12 hown hK hw hW kd900 (by decide) rfl rfl 11 (by decide) eq10 (hT _ tb_1385) (fun _ h9 => h9) dX12_unit_55 ?_
        refine p_iald (v := zi20) hx hb hK hw hW kd18 (by decide) rfl (hW.len kd18 (n := 403) rfl (by decide)) (vp_b bd12 (by decide) (by decide)) eq19 dX12_unit_58 ?_
        refine lv_bipush (v := 37) hx hb dX12_unit_59 (by decide) ?_
        refine lv_icmp_le (tgt := 73) hx hb dX12_unit_61 (by decide) (fun cn174 => ?_) (fun cn174 => ?_)
        · skip
          have bd175 : (34 : Int) ≤ zi20.toInt ∧ zi20.toInt ≤ 37 := r_le_x cn174 bd173 bc_37 (by decide) (by decide)
          refine lv_aload_n hx hb dX12_unit_73 rfl (lv_at hl 0 rfl) ?_
          refine lv_iconst (v := 1) hx hb dX12_unit_74 (by decide) ?_
          refine lv_aload_n hx hb dX12_unit_75 rfl (lv_at hl 0 rfl) ?_
          refine lv_bipush (v := 23) hx hb dX12_unit_76 (by decide) ?_
          refine kq_i hw hS hA (va_runV (As := [.int 23]) (rest := [.int 1, .ref qa900]) ⟨hx, hb, hml, hown, hT⟩ (cX12_is_0 l G cy ev K ln Ls hW _ hp0 ok0 qa900 23 kd900) (cwV 1 hT (good_V tb_1623 tb_1620 tb_1622 tb_52 tb_122) rfl rfl rfl (by decide +kernel) ⟨Nat.le_of_ble_eq_true rfl, Nat.le_of_ble_eq_true rfl⟩) (pool_preV (ci := 12) hK hE hS hA hw hW kd900 (by decide) rfl) rfl rfl hl.1 rfl (lv_room (Nat.le_of_ble_eq_true rfl)) dX12_unit_78 ⟨Nat.le_of_ble_eq_true rfl, Nat.le_of_ble_eq_true rfl⟩) (fun zi180 hp176 H locs hq179 hw hS => ?_)
          obtain ⟨ok177, F178, bd181, hc182, rh183, rh184, rh185⟩ := hq179
          obtain rfl : hp0 = hp176 := (Fr.nil F178).symm
          have hw : PW G cy K ln Ls A hp0 H := hw
          rcases b01 bd181 with cn186 | cn186
          · skip
            subst cn186
            have rh187 := rh185 rfl
            simp only [ge_of eq16 eq10 eq19, gi_of eq4, toi bc_23] at rh187
            refine lv_if_eq (tgt := 88) hx hb dX12_unit_81 (by decide) (fun _ => ?_) (fun c => absurd (d_eq bc_0 bc_0) c)
            refine lv_aload_n hx hb dX12_unit_88 rfl (lv_at hl 0 rfl) ?_
            refine p_get (ci := 12) (v := .ref qa17) (C := RX12) (T := TX12) (N := 69) hx hb hT iw_X12 hown hK hw hW kd900 (by decide) rfl rfl 5 (by decide) eq16 (hT _ tb_1379) (fun _ h9 => h9) dX12_unit_89 ?_
            refine lv_aload_n hx hb dX12_unit_92 rfl (lv_at hl 0 rfl) ?_
            refine p_get (ci := 12) (v := .int zi11) (C := RX12) (T := TX12) (N := 69) hx hb hT iw_X12 hown hK hw hW kd900 (by decide) rfl rfl 11 (by decide) eq10 (hT _ tb_1385) (fun _ h9 => h9) dX12_unit_93 ?_
            refine p_iald (v := zi20) hx hb hK hw hW kd18 (by decide) rfl (hW.len kd18 (n := 403) rfl (by decide)) (vp_b bd12 (by decide) (by decide)) eq19 dX12_unit_96 ?_
            refine lv_bipush (v := 34) hx hb dX12_unit_97 (by decide) ?_
            refine lv_isub hx hb dX12_unit_99 (lv_topi (fun zi188 ea189 => ?_))
            have bd190 : (0 : Int) ≤ zi188.toInt ∧ zi188.toInt ≤ 3 := b_isub ea189 bd175 bc_34 (by decide) (by decide) (by decide) (by decide)
            have qe191 : zi188.toInt = (zi20 : Int32).toInt - (34 : Int32).toInt := e_isub ea189 bd175 bc_34 (by decide) (by decide)
            have qe192 : zi188.toInt = zi20.toInt - 34 := by have ha : (34 : Int32).toInt = 34 := (by decide); rw [ha] at qe191; exact qe191
            refine kq_v hw hS hA (va_runV (As := [.int 1, .int zi188]) (rest := []) ⟨hx, hb, hml, hown, hT⟩ (cX12_emit_0 l G cy ev K ln Ls hW _ hp0 ok0 qa900 1 zi188 kd900 (b_wid2 bc_1 (by decide) (by decide)) (by simp only [gi_of eq1]; omega)) (cwV 2 hT (good_V tb_1711 tb_1708 tb_1710 tb_73 tb_122) rfl rfl rfl (by decide +kernel) ⟨Nat.le_of_ble_eq_true rfl, Nat.le_of_ble_eq_true rfl⟩) (pool_preV (ci := 12) hK hE hS hA hw hW kd900 (by decide) rfl) rfl rfl hl.1 rfl (lv_room (Nat.le_of_ble_eq_true rfl)) dX12_unit_100 ⟨Nat.le_of_ble_eq_true rfl, Nat.le_of_ble_eq_true rfl⟩) (fun hp193 H locs hq196 hw hS => ?_)
            obtain ⟨ok194, F195, ⟨zi198, eq199, bd200⟩, xq201, rh202⟩ := hq196
            have hw : PW G cy K ln Ls A hp193 H := hw
            simp only [gi_of eq1, gi_of eq199] at rh202
            have ei203 : EIx hp193 qa900 gc0 1 := EI_unit ok0 kd900 pdEI0 xq201 F195 (by have := toi bc_1; omega)
            have lp204 : LPx hp193 qa900 := LP_emit ok0 kd900 pdLPx xq201 F195 (by rw [gi_of eq1, gi_of eq7]; omega)
            refine lv_aload_n hx hb dX12_unit_103 rfl (lv_at hl 0 rfl) ?_
            have eq205 : hp193 qa900 13 = .int zi5 := Eq.trans (Fr.at (cq := 13013) F195 kd900 (cd_o (by decide)) (by decide)) eq4
            have eq206 : hp193 qa900 11 = .int zi11 := Eq.trans (Fr.at (cq := 13011) F195 kd900 (cd_o (by decide)) (by decide)) eq10
            refine kq_v hw hS hA (va_runV (As := []) (rest := []) ⟨hx, hb, hml, hown, hT⟩ (cX12_goesOn_0 l G cy ev K ln Ls hW _ hp193 ok194 qa900 kd900) (cwV 0 hT (good_V tb_1639 tb_1636 tb_1638 tb_56 tb_122) rfl rfl rfl (by decide +kernel) ⟨Nat.le_of_ble_eq_true rfl, Nat.le_of_ble_eq_true rfl⟩) (pool_preV (ci := 12) hK hE hS hA hw hW kd900 (by decide) rfl) rfl rfl hl.1 rfl (lv_room (Nat.le_of_ble_eq_true rfl)) dX12_unit_104 ⟨Nat.le_of_ble_eq_true rfl, Nat.le_of_ble_eq_true rfl⟩) (fun hp207 H locs hq210 hw hS => ?_)
            obtain ⟨ok208, F209, ⟨zi212, eq213, bd214⟩, rh215, rh216, rh217⟩ := hq210
            have hw : PW G cy K ln Ls A hp207 H := hw
            obtain ⟨zi219, eq218, bd220⟩ := rd_13013 ok208 kd900
            simp only [gi_of eq205, gi_of eq206, gi_of eq213, gi_of eq218] at rh215
            simp only [gi_of eq205, gi_of eq218] at rh216
            simp only [gi_of eq206, gi_of eq213, gi_of eq218] at rh217
            refine lv_goto (tgt := 115) hx hb dX12_unit_107 (by decide) ?_
            have pd221 : LPx hp207 qa900 := LP_fr ok194 kd900 (show Fr [13011, 13013, 13014] K hp193 hp207 from (Fr.tr (Fr.rf) F209 (by decide))) (by decide) lp204
            have pd222 : EIx hp207 qa900 gc0 1 := EI_fr ok194 kd900 (show Fr [13011, 13013, 13014] K hp193 hp207 from (Fr.tr (Fr.rf) F209 (by decide))) (by decide) ei203
            have eq223 : hp207 qa900 38 = .int zi198 := Eq.trans (Fr.at (cq := 13038) F209 kd900 (cd_o (by decide)) (by decide)) eq199
            have eq224 : hp207 qa900 19 = .int zi8 := Eq.trans (Fr.at (cq := 13019) F209 kd900 (cd_o (by decide)) (by decide)) (Eq.trans (Fr.at (cq := 13019) F195 kd900 (cd_o (by decide)) (by decide)) eq7)
            have eq225 : hp207 qa900 45 = .int zi14 := Eq.trans (Fr.at (cq := 13045) F209 kd900 (cd_o (by decide)) (by decide)) (Eq.trans (Fr.at (cq := 13045) F195 kd900 (cd_o (by decide)) (by decide)) eq13)
            rw [hQ]
            exact kz_v hx hb hr hlocks hS hp207 hw ⟨ok208, (Fr.tr (Fr.tr (Fr.rf) F195 (by decide)) F209 (by decide)), (pd221), (fun _ => pd222), (by simp only [gi_of eq10, gi_of eq213, gi_of eq218, gi_of eq4]; omega), (by simp only [gi_of eq218, gi_of eq4]; omega), (by simp only [gi_of eq10, gi_of eq213, gi_of eq218]; omega), (by simp only [gi_of eq213, gi_of eq218, gi_of eq223, gi_of eq224, gi_of eq225]; omega)⟩ (Nat.le_of_ble_eq_true rfl) (Nat.le_of_ble_eq_true rfl) dX12_unit_115
          · skip
            subst cn186
            obtain ⟨zi226, eq227, bd228⟩ := hc182 rfl
            have hx229 : zi5 = zi226 := Value.int.inj (Eq.trans (Eq.symm eq4) eq227)
            subst hx229
            have bd230 : (0 : Int) ≤ zi5.toInt ∧ zi5.toInt ≤ 0 := b_meet bd50 bd228 (by decide) (by decide)
            have rh231 := rh183 rfl
            simp only [ge_of eq16 eq10 eq19, toi bc_23] at rh231
            have rh232 := rh184 rfl
            simp only [gi_of eq4] at rh232
            refine lv_if_eq (tgt := 88) hx hb dX12_unit_81 (by decide) (fun c => absurd c (d_ne bc_1 bc_0 (by decide))) (fun _ => ?_)
            refine lv_iconst (v := 4) hx hb dX12_unit_84 (by decide) ?_
            refine lv_goto (tgt := 100) hx hb dX12_unit_85 (by decide) ?_
            refine kq_v hw hS hA (va_runV (As := [.int 1, .int 4]) (rest := []) ⟨hx, hb, hml, hown, hT⟩ (cX12_emit_0 l G cy ev K ln Ls hW _ hp0 ok0 qa900 1 4 kd900 (b_wid2 bc_1 (by decide) (by decide)) (by simp only [gi_of eq1]; omega)) (cwV 2 hT (good_V tb_1711 tb_1708 tb_1710 tb_73 tb_122) rfl rfl rfl (by decide +kernel) ⟨Nat.le_of_ble_eq_true rfl, Nat.le_of_ble_eq_true rfl⟩) (pool_preV (ci := 12) hK hE hS hA hw hW kd900 (by decide) rfl) rfl rfl hl.1 rfl (lv_room (Nat.le_of_ble_eq_true rfl)) dX12_unit_100 ⟨Nat.le_of_ble_eq_true rfl, Nat.le_of_ble_eq_true rfl⟩) (fun hp233 H locs hq236 hw hS => ?_)
            obtain ⟨ok234, F235, ⟨zi238, eq239, bd240⟩, xq241, rh242⟩ := hq236
            have hw : PW G cy K ln Ls A hp233 H := hw
            simp only [gi_of eq1, gi_of eq239] at rh242
            have ei243 : EIx hp233 qa900 gc0 1 := EI_unit ok0 kd900 pdEI0 xq241 F235 (by have := toi bc_1; have := toi bc_4; omega)
            have lp244 : LPx hp233 qa900 := LP_emit ok0 kd900 pdLPx xq241 F235 (by rw [gi_of eq1, gi_of eq7]; omega)
            refine lv_aload_n hx hb dX12_unit_103 rfl (lv_at hl 0 rfl) ?_
            have eq245 : hp233 qa900 13 = .int zi5 := Eq.trans (Fr.at (cq := 13013) F235 kd900 (cd_o (by decide)) (by decide)) eq4
            have eq246 : hp233 qa900 11 = .int zi11 := Eq.trans (Fr.at (cq := 13011) F235 kd900 (cd_o (by decide)) (by decide)) eq10
            refine kq_v hw hS hA (va_runV (As := []) (rest := []) ⟨hx, hb, hml, hown, hT⟩ (cX12_goesOn_0 l G cy ev K ln Ls hW _ hp233 ok234 qa900 kd900) (cwV 0 hT (good_V tb_1639 tb_1636 tb_1638 tb_56 tb_122) rfl rfl rfl (by decide +kernel) ⟨Nat.le_of_ble_eq_true rfl, Nat.le_of_ble_eq_true rfl⟩) (pool_preV (ci := 12) hK hE hS hA hw hW kd900 (by decide) rfl) rfl rfl hl.1 rfl (lv_room (Nat.le_of_ble_eq_true rfl)) dX12_unit_104 ⟨Nat.le_of_ble_eq_true rfl, Nat.le_of_ble_eq_true rfl⟩) (fun hp247 H locs hq250 hw hS => ?_)
            obtain ⟨ok248, F249, ⟨zi252, eq253, bd254⟩, rh255, rh256, rh257⟩ := hq250
            have hw : PW G cy K ln Ls A hp247 H := hw
            obtain ⟨zi259, eq258, bd260⟩ := rd_13013 ok248 kd900
            simp only [gi_of eq245, gi_of eq246, gi_of eq253, gi_of eq258] at rh255
            simp only [gi_of eq245, gi_of eq258] at rh256
            simp only [gi_of eq246, gi_of eq253, gi_of eq258] at rh257
            refine lv_goto (tgt := 115) hx hb dX12_unit_107 (by decide) ?_
            have pd261 : LPx hp247 qa900 := LP_fr ok234 kd900 (show Fr [13011, 13013, 13014] K hp233 hp247 from (Fr.tr (Fr.rf) F249 (by decide))) (by decide) lp244
            have pd262 : EIx hp247 qa900 gc0 1 := EI_fr ok234 kd900 (show Fr [13011, 13013, 13014] K hp233 hp247 from (Fr.tr (Fr.rf) F249 (by decide))) (by decide) ei243
            have eq263 : hp247 qa900 38 = .int zi238 := Eq.trans (Fr.at (cq := 13038) F249 kd900 (cd_o (by decide)) (by decide)) eq239
            have eq264 : hp247 qa900 19 = .int zi8 := Eq.trans (Fr.at (cq := 13019) F249 kd900 (cd_o (by decide)) (by decide)) (Eq.trans (Fr.at (cq := 13019) F235 kd900 (cd_o (by decide)) (by decide)) eq7)
            have eq265 : hp247 qa900 45 = .int zi14 := Eq.trans (Fr.at (cq := 13045) F249 kd900 (cd_o (by decide)) (by decide)) (Eq.trans (Fr.at (cq := 13045) F235 kd900 (cd_o (by decide)) (by decide)) eq13)
            rw [hQ]
            exact kz_v hx hb hr hlocks hS hp247 hw ⟨ok248, (Fr.tr (Fr.tr (Fr.rf) F235 (by decide)) F249 (by decide)), (pd261), (fun _ => pd262), (by simp only [gi_of eq10, gi_of eq253, gi_of eq258, gi_of eq4]; omega), (by simp only [gi_of eq258, gi_of eq4]; omega), (by simp only [gi_of eq10, gi_of eq253, gi_of eq258]; omega), (by simp only [gi_of eq253, gi_of eq258, gi_of eq263, gi_of eq264, gi_of eq265]; omega)⟩ (Nat.le_of_ble_eq_true rfl) (Nat.le_of_ble_eq_true rfl) dX12_unit_115
        · skip
          have bd266 : (38 : Int) ≤ zi20.toInt ∧ zi20.toInt ≤ 2147483647 := r_lt_y (Int32.not_le.mp cn174) bc_37 bd173 (by decide) (by decide)
          refine lv_aload_n hx hb dX12_unit_64 rfl (lv_at hl 0 rfl) ?_
          refine lv_bipush (v := 23) hx hb dX12_unit_65 (by decide) ?_
          refine kq_i hw hS hA (va_runV (As := [.int 23]) (rest := []) ⟨hx, hb, hml, hown, hT⟩ (cX12_is_0 l G cy ev K ln Ls hW _ hp0 ok0 qa900 23 kd900) (cwV 1 hT (good_V tb_1623 tb_1620 tb_1622 tb_52 tb_122) rfl rfl rfl (by decide +kernel) ⟨Nat.le_of_ble_eq_true rfl, Nat.le_of_ble_eq_true rfl⟩) (pool_preV (ci := 12) hK hE hS hA hw hW kd900 (by decide) rfl) rfl rfl hl.1 rfl (lv_room (Nat.le_of_ble_eq_true rfl)) dX12_unit_67 ⟨Nat.le_of_ble_eq_true rfl, Nat.le_of_ble_eq_true rfl⟩) (fun zi271 hp267 H locs hq270 hw hS => ?_)
          obtain ⟨ok268, F269, bd272, hc273, rh274, rh275, rh276⟩ := hq270
          obtain rfl : hp0 = hp267 := (Fr.nil F269).symm
          have hw : PW G cy K ln Ls A hp0 H := hw
          rcases b01 bd272 with cn277 | cn277
          · skip
            subst cn277
            have rh278 := rh276 rfl
            simp only [ge_of eq16 eq10 eq19, gi_of eq4, toi bc_23] at rh278
            refine lv_if_eq (tgt := 110) hx hb dX12_unit_70 (by decide) (fun _ => ?_) (fun c => absurd (d_eq bc_0 bc_0) c)
            refine lv_aload_n hx hb dX12_unit_110 rfl (lv_at hl 0 rfl) ?_
            refine lv_iconst (v := 1) hx hb dX12_unit_111 (by decide) ?_
            refine kq_v hw hS hA (va_runV (As := [.int 1]) (rest := []) ⟨hx, hb, hml, hown, hT⟩ (cX12_fail_0 l G cy ev K ln Ls hW _ hp0 ok0 qa900 1 kd900 (b_wid2 bc_1 (by decide) (by decide))) (cwV 1 hT (good_V tb_1635 tb_1632 tb_1634 tb_55 tb_122) rfl rfl rfl (by decide +kernel) ⟨Nat.le_of_ble_eq_true rfl, Nat.le_of_ble_eq_true rfl⟩) (pool_preV (ci := 12) hK hE hS hA hw hW kd900 (by decide) rfl) rfl rfl hl.1 rfl (lv_room (Nat.le_of_ble_eq_true rfl)) dX12_unit_112 ⟨Nat.le_of_ble_eq_true rfl, Nat.le_of_ble_eq_true rfl⟩) (fun hp279 H locs hq282 hw hS => ?_)
            obtain ⟨ok280, F281, ⟨zi284, eq285, bd286⟩, rh287⟩ := hq282
            have hw : PW G cy K ln Ls A hp279 H := hw
            simp only [gi_of eq285, gi_of eq4] at rh287
            have pd288 : LPx hp279 qa900 := LP_fr ok0 kd900 (show Fr [13013, 13014] K hp0 hp279 from (Fr.tr (Fr.rf) F281 (by decide))) (by decide) pdLPx
            have eq289 : hp279 qa900 11 = .int zi11 := Eq.trans (Fr.at (cq := 13011) F281 kd900 (cd_o (by decide)) (by decide)) eq10
            have eq290 : hp279 qa900 38 = .int zi2 := Eq.trans (Fr.at (cq := 13038) F281 kd900 (cd_o (by decide)) (by decide)) eq1
            have eq291 : hp279 qa900 19 = .int zi8 := Eq.trans (Fr.at (cq := 13019) F281 kd900 (cd_o (by decide)) (by decide)) eq7
            have eq292 : hp279 qa900 45 = .int zi14 := Eq.trans (Fr.at (cq := 13045) F281 kd900 (cd_o (by decide)) (by decide)) eq13
            rw [hQ]
            exact kz_v hx hb hr hlocks hS hp279 hw ⟨ok280, (Fr.tr (Fr.rf) F281 (by decide)), (pd288), (fun h => absurd h (by rw [gi_of eq285]; omega)), (by simp only [gi_of eq10, gi_of eq285, gi_of eq289, gi_of eq4]; omega), (by simp only [gi_of eq285, gi_of eq4]; omega), (by simp only [gi_of eq10, gi_of eq285, gi_of eq289]; omega), (by simp only [gi_of eq285, gi_of eq289, gi_of eq290, gi_of eq291, gi_of eq292]; omega)⟩ (Nat.le_of_ble_eq_true rfl) (Nat.le_of_ble_eq_true rfl) dX12_unit_115
          · skip
            subst cn277
            obtain ⟨zi293, eq294, bd295⟩ := hc273 rfl
            have hx296 : zi5 = zi293 := Value.int.inj (Eq.trans (Eq.symm eq4) eq294)
            subst hx296
            have bd297 : (0 : Int) ≤ zi5.toInt ∧ zi5.toInt ≤ 0 := b_meet bd50 bd295 (by decide) (by decide)
            have rh298 := rh274 rfl
            simp only [ge_of eq16 eq10 eq19, toi bc_23] at rh298
            have rh299 := rh275 rfl
            simp only [gi_of eq4] at rh299
            refine lv_if_eq (tgt := 110) hx hb dX12_unit_70 (by decide) (fun c => absurd c (d_ne bc_1 bc_0 (by decide))) (fun _ => ?_)
            refine lv_aload_n hx hb dX12_unit_73 rfl (lv_at hl 0 rfl) ?_
            refine lv_iconst (v := 1) hx hb dX12_unit_74 (by decide) ?_
            refine lv_aload_n hx hb dX12_unit_75 rfl (lv_at hl 0 rfl) ?_
            refine lv_bipush (v := 23) hx hb dX12_unit_76 (by decide) ?_
            refine kq_i hw hS hA (va_runV (As := [.int 23]) (rest := [.int 1, .ref qa900]) ⟨hx, hb, hml, hown, hT⟩ (cX12_is_0 l G cy ev K ln Ls hW _ hp0 ok0 qa900 23 kd900) (cwV 1 hT (good_V tb_1623 tb_1620 tb_1622 tb_52 tb_122) rfl rfl rfl (by decide +kernel) ⟨Nat.le_of_ble_eq_true rfl, Nat.le_of_ble_eq_true rfl⟩) (pool_preV (ci := 12) hK hE hS hA hw hW kd900 (by decide) rfl) rfl rfl hl.1 rfl (lv_room (Nat.le_of_ble_eq_true rfl)) dX12_unit_78 ⟨Nat.le_of_ble_eq_true rfl, Nat.le_of_ble_eq_true rfl⟩) (fun zi304 hp300 H locs hq303 hw hS => ?_)
            obtain ⟨ok301, F302, bd305, hc306, rh307, rh308, rh309⟩ := hq303
            obtain rfl : hp0 = hp300 := (Fr.nil F302).symm
            have hw : PW G cy K ln Ls A hp0 H := hw
            rcases b01 bd305 with cn310 | cn310
            · skip
              subst cn310
              have rh311 := rh309 rfl
              simp only [ge_of eq16 eq10 eq19, gi_of eq4, toi bc_23] at rh311
              refine lv_if_eq (tgt := 88) hx hb dX12_unit_81 (by decide) (fun _ => ?_) (fun c => absurd (d_eq bc_0 bc_0) c)
              refine lv_aload_n hx hb dX12_unit_88 rfl (lv_at hl 0 rfl) ?_
              refine p_get (ci := 12) (v := .ref qa17) (C := RX12) (T := TX12) (N := 69) hx hb hT iw_X12 hown hK hw hW kd900 (by decide) rfl rfl 5 (by decide) eq16 (hT _ tb_1379) (fun _ h9 => h9) dX12_unit_89 ?_
              refine lv_aload_n hx hb dX12_unit_92 rfl (lv_at hl 0 rfl) ?_
              refine p_get (ci := 12) (v := .int zi11) (C := RX12) (T := TX12) (N := 69) hx hb hT iw_X12 hown hK hw hW kd900 (by decide) rfl rfl 11 (by decide) eq10 (hT _ tb_1385) (fun _ h9 => h9) dX12_unit_93 ?_
              refine p_iald (v := zi20) hx hb hK hw hW kd18 (by decide) rfl (hW.len kd18 (n := 403) rfl (by decide)) (vp_b bd12 (by decide) (by decide)) eq19 dX12_unit_96 ?_
              refine lv_bipush (v := 34) hx hb dX12_unit_97 (by decide) ?_
              refine lv_isub hx hb dX12_unit_99 (lv_topi (fun zi312 ea313 => ?_))
              have bd314 : (4 : Int) ≤ zi312.toInt ∧ zi312.toInt ≤ 2147483613 := b_isub ea313 bd266 bc_34 (by decide) (by decide) (by decide) (by decide)
              have qe315 : zi312.toInt = (zi20 : Int32).toInt - (34 : Int32).toInt := e_isub ea313 bd266 bc_34 (by decide) (by decide)
              have qe316 : zi312.toInt = zi20.toInt - 34 := by have ha : (34 : Int32).toInt = 34 := (by decide); rw [ha] at qe315; exact qe315
              refine kq_v hw hS hA (va_runV (As := [.int 1, .int zi312]) (rest := []) ⟨hx, hb, hml, hown, hT⟩ (cX12_emit_0 l G cy ev K ln Ls hW _ hp0 ok0 qa900 1 zi312 kd900 (b_wid2 bc_1 (by decide) (by decide)) (by simp only [gi_of eq1]; omega)) (cwV 2 hT (good_V tb_1711 tb_1708 tb_1710 tb_73 tb_122) rfl rfl rfl (by decide +kernel) ⟨Nat.le_of_ble_eq_true rfl, Nat.le_of_ble_eq_true rfl⟩) (pool_preV (ci := 12) hK hE hS hA hw hW kd900 (by decide) rfl) rfl rfl hl.1 rfl (lv_room (Nat.le_of_ble_eq_true rfl)) dX12_unit_100 ⟨Nat.le_of_ble_eq_true rfl, Nat.le_of_ble_eq_true rfl⟩) (fun hp317 H locs hq320 hw hS => ?_)
              obtain ⟨ok318, F319, ⟨zi322, eq323, bd324⟩, xq325, rh326⟩ := hq320
              have hw : PW G cy K ln Ls A hp317 H := hw
              simp only [gi_of eq1, gi_of eq323] at rh326
              have ei327 : EIx hp317 qa900 gc0 1 := EI_unit ok0 kd900 pdEI0 xq325 F319 (by have := toi bc_1; omega)
              have lp328 : LPx hp317 qa900 := LP_emit ok0 kd900 pdLPx xq325 F319 (by rw [gi_of eq1, gi_of eq7]; omega)
              refine lv_aload_n hx hb dX12_unit_103 rfl (lv_at hl 0 rfl) ?_
              have eq329 : hp317 qa900 13 = .int zi5 := Eq.trans (Fr.at (cq := 13013) F319 kd900 (cd_o (by decide)) (by decide)) eq4
              have eq330 : hp317 qa900 11 = .int zi11 := Eq.trans (Fr.at (cq := 13011) F319 kd900 (cd_o (by decide)) (by decide)) eq10
              refine kq_v hw hS hA (va_runV (As := []) (rest := []) ⟨hx, hb, hml, hown, hT⟩ (cX12_goesOn_0 l G cy ev K ln Ls hW _ hp317 ok318 qa900 kd900) (cwV 0 hT (good_V tb_1639 tb_1636 tb_1638 tb_56 tb_122) rfl rfl rfl (by decide +kernel) ⟨Nat.le_of_ble_eq_true rfl, Nat.le_of_ble_eq_true rfl⟩) (pool_preV (ci := 12) hK hE hS hA hw hW kd900 (by decide) rfl) rfl rfl hl.1 rfl (lv_room (Nat.le_of_ble_eq_true rfl)) dX12_unit_104 ⟨Nat.le_of_ble_eq_true rfl, Nat.le_of_ble_eq_true rfl⟩) (fun hp331 H locs hq334 hw hS => ?_)
              obtain ⟨ok332, F333, ⟨zi336, eq337, bd338⟩, rh339, rh340, rh341⟩ := hq334
              have hw : PW G cy K ln Ls A hp331 H := hw
              obtain ⟨zi343, eq342, bd344⟩ := rd_13013 ok332 kd900
              simp only [gi_of eq329, gi_of eq330, gi_of eq337, gi_of eq342] at rh339
              simp only [gi_of eq329, gi_of eq342] at rh340
              simp only [gi_of eq330, gi_of eq337, gi_of eq342] at rh341
              refine lv_goto (tgt := 115) hx hb dX12_unit_107 (by decide) ?_
              have pd345 : LPx hp331 qa900 := LP_fr ok318 kd900 (show Fr [13011, 13013, 13014] K hp317 hp331 from (Fr.tr (Fr.rf) F333 (by decide))) (by decide) lp328
              have pd346 : EIx hp331 qa900 gc0 1 := EI_fr ok318 kd900 (show Fr [13011, 13013, 13014] K hp317 hp331 from (Fr.tr (Fr.rf) F333 (by decide))) (by decide) ei327
              have eq347 : hp331 qa900 38 = .int zi322 := Eq.trans (Fr.at (cq := 13038) F333 kd900 (cd_o (by decide)) (by decide)) eq323
              have eq348 : hp331 qa900 19 = .int zi8 := Eq.trans (Fr.at (cq := 13019) F333 kd900 (cd_o (by decide)) (by decide)) (Eq.trans (Fr.at (cq := 13019) F319 kd900 (cd_o (by decide)) (by decide)) eq7)
              have eq349 : hp331 qa900 45 = .int zi14 := Eq.trans (Fr.at (cq := 13045) F333 kd900 (cd_o (by decide)) (by decide)) (Eq.trans (Fr.at (cq := 13045) F319 kd900 (cd_o (by decide)) (by decide)) eq13)
              rw [hQ]
              exact kz_v hx hb hr hlocks hS hp331 hw ⟨ok332, (Fr.tr (Fr.tr (Fr.rf) F319 (by decide)) F333 (by decide)), (pd345), (fun _ => pd346), (by simp only [gi_of eq10, gi_of eq337, gi_of eq342, gi_of eq4]; omega), (by simp only [gi_of eq342, gi_of eq4]; omega), (by simp only [gi_of eq10, gi_of eq337, gi_of eq342]; omega), (by simp only [gi_of eq337, gi_of eq342, gi_of eq347, gi_of eq348, gi_of eq349]; omega)⟩ (Nat.le_of_ble_eq_true rfl) (Nat.le_of_ble_eq_true rfl) dX12_unit_115
            · skip
              subst cn310
              obtain ⟨zi350, eq351, bd352⟩ := hc306 rfl
              have hx353 : zi5 = zi350 := Value.int.inj (Eq.trans (Eq.symm eq4) eq351)
              subst hx353
              have bd354 : (0 : Int) ≤ zi5.toInt ∧ zi5.toInt ≤ 0 := b_meet bd297 bd352 (by decide) (by decide)
              have rh355 := rh307 rfl
              simp only [ge_of eq16 eq10 eq19, toi bc_23] at rh355
              have rh356 := rh308 rfl
              simp only [gi_of eq4] at rh356
              refine lv_if_eq (tgt := 88) hx hb dX12_unit_81 (by decide) (fun c => absurd c (d_ne bc_1 bc_0 (by decide))) (fun _ => ?_)
              refine lv_iconst (v := 4) hx hb dX12_unit_84 (by decide) ?_
              refine lv_goto (tgt := 100) hx hb dX12_unit_85 (by decide) ?_
              refine kq_v hw hS hA (va_runV (As := [.int 1, .int 4]) (rest := []) ⟨hx, hb, hml, hown, hT⟩ (cX12_emit_0 l G cy ev K ln Ls hW _ hp0 ok0 qa900 1 4 kd900 (b_wid2 bc_1 (by decide) (by decide)) (by simp only [gi_of eq1]; omega)) (cwV 2 hT (good_V tb_1711 tb_1708 tb_1710 tb_73 tb_122) rfl rfl rfl (by decide +kernel) ⟨Nat.le_of_ble_eq_true rfl, Nat.le_of_ble_eq_true rfl⟩) (pool_preV (ci := 12) hK hE hS hA hw hW kd900 (by decide) rfl) rfl rfl hl.1 rfl (lv_room (Nat.le_of_ble_eq_true rfl)) dX12_unit_100 ⟨Nat.le_of_ble_eq_true rfl, Nat.le_of_ble_eq_true rfl⟩) (fun hp357 H locs hq360 hw hS => ?_)
              obtain ⟨ok358, F359, ⟨zi362, eq363, bd364⟩, xq365, rh366⟩ := hq360
              have hw : PW G cy K ln Ls A hp357 H := hw
              simp only [gi_of eq1, gi_of eq363] at rh366
              have ei367 : EIx hp357 qa900 gc0 1 := EI_unit ok0 kd900 pdEI0 xq365 F359 (by have := toi bc_1; have := toi bc_4; omega)
              have lp368 : LPx hp357 qa900 := LP_emit ok0 kd900 pdLPx xq365 F359 (by rw [gi_of eq1, gi_of eq7]; omega)
              refine lv_aload_n hx hb dX12_unit_103 rfl (lv_at hl 0 rfl) ?_
              have eq369 : hp357 qa900 13 = .int zi5 := Eq.trans (Fr.at (cq := 13013) F359 kd900 (cd_o (by decide)) (by decide)) eq4
              have eq370 : hp357 qa900 11 = .int zi11 := Eq.trans (Fr.at (cq := 13011) F359 kd900 (cd_o (by decide)) (by decide)) eq10
              refine kq_v hw hS hA (va_runV (As := []) (rest := []) ⟨hx, hb, hml, hown, hT⟩ (cX12_goesOn_0 l G cy ev K ln Ls hW _ hp357 ok358 qa900 kd900) (cwV 0 hT (good_V tb_1639 tb_1636 tb_1638 tb_56 tb_122) rfl rfl rfl (by decide +kernel) ⟨Nat.le_of_ble_eq_true rfl, Nat.le_of_ble_eq_true rfl⟩) (pool_preV (ci := 12) hK hE hS hA hw hW kd900 (by decide) rfl) rfl rfl hl.1 rfl (lv_room (Nat.le_of_ble_eq_true rfl)) dX12_unit_104 ⟨Nat.le_of_ble_eq_true rfl, Nat.le_of_ble_eq_true rfl⟩) (fun hp371 H locs hq374 hw hS => ?_)
              obtain ⟨ok372, F373, ⟨zi376, eq377, bd378⟩, rh379, rh380, rh381⟩ := hq374
              have hw : PW G cy K ln Ls A hp371 H := hw
              obtain ⟨zi383, eq382, bd384⟩ := rd_13013 ok372 kd900
              simp only [gi_of eq369, gi_of eq370, gi_of eq377, gi_of eq382] at rh379
              simp only [gi_of eq369, gi_of eq382] at rh380
              simp only [gi_of eq370, gi_of eq377, gi_of eq382] at rh381
              refine lv_goto (tgt := 115) hx hb dX12_unit_107 (by decide) ?_
              have pd385 : LPx hp371 qa900 := LP_fr ok358 kd900 (show Fr [13011, 13013, 13014] K hp357 hp371 from (Fr.tr (Fr.rf) F373 (by decide))) (by decide) lp368
              have pd386 : EIx hp371 qa900 gc0 1 := EI_fr ok358 kd900 (show Fr [13011, 13013, 13014] K hp357 hp371 from (Fr.tr (Fr.rf) F373 (by decide))) (by decide) ei367
              have eq387 : hp371 qa900 38 = .int zi362 := Eq.trans (Fr.at (cq := 13038) F373 kd900 (cd_o (by decide)) (by decide)) eq363
              have eq388 : hp371 qa900 19 = .int zi8 := Eq.trans (Fr.at (cq := 13019) F373 kd900 (cd_o (by decide)) (by decide)) (Eq.trans (Fr.at (cq := 13019) F359 kd900 (cd_o (by decide)) (by decide)) eq7)
              have eq389 : hp371 qa900 45 = .int zi14 := Eq.trans (Fr.at (cq := 13045) F373 kd900 (cd_o (by decide)) (by decide)) (Eq.trans (Fr.at (cq := 13045) F359 kd900 (cd_o (by decide)) (by decide)) eq13)
              rw [hQ]
              exact kz_v hx hb hr hlocks hS hp371 hw ⟨ok372, (Fr.tr (Fr.tr (Fr.rf) F359 (by decide)) F373 (by decide)), (pd385), (fun _ => pd386), (by simp only [gi_of eq10, gi_of eq377, gi_of eq382, gi_of eq4]; omega), (by simp only [gi_of eq382, gi_of eq4]; omega), (by simp only [gi_of eq10, gi_of eq377, gi_of eq382]; omega), (by simp only [gi_of eq377, gi_of eq382, gi_of eq387, gi_of eq388, gi_of eq389]; omega)⟩ (Nat.le_of_ble_eq_true rfl) (Nat.le_of_ble_eq_true rfl) dX12_unit_115
  · skip
    subst cn31
    obtain ⟨zi390, eq391, bd392⟩ := hc27 rfl
    have hx393 : zi5 = zi390 := Value.int.inj (Eq.trans (Eq.symm eq4) eq391)
    subst hx393
    have bd394 : (0 : Int) ≤ zi5.toInt ∧ zi5.toInt ≤ 0 := b_meet bd6 bd392 (by decide) (by decide)
    have rh395 := rh28 rfl
    simp only [ge_of eq16 eq10 eq19, toi bc_2] at rh395
    have rh396 := rh29 rfl
    simp only [gi_of eq4] at rh396
    refine lv_if_eq (tgt := 29) hx hb dX12_unit_5 (by decide) (fun c => absurd c (d_ne bc_1 bc_0 (by decide))) (fun _ => ?_)
    refine lv_aload_n hx hb dX12_unit_8 rfl (lv_at hl 0 rfl) ?_
    refine lv_iconst (v := 0) hx hb dX12_unit_9 (by decide) ?_
    refine lv_aload_n hx hb dX12_unit_10 rfl (lv_at hl 0 rfl) ?_
    obtain ⟨qa398, eq397, kd399⟩ := rd_13007 ok0 kd900
    refine p_get (ci := 12) (v := .ref qa398) (C := RX12) (T := TX12) (N := 69) hx hb hT iw_X12 hown hK hw hW kd900 (by decide) rfl rfl 7 (by decide) eq397 (hT _ tb_1381) (fun _ h9 => h9) dX12_unit_11 ?_
    refine lv_aload_n hx hb dX12_unit_14 rfl (lv_at hl 0 rfl) ?_
    refine p_get (ci := 12) (v := .int zi11) (C := RX12) (T := TX12) (N := 69) hx hb hT iw_X12 hown hK hw hW kd900 (by decide) rfl rfl 11 (by decide) eq10 (hT _ tb_1385) (fun _ h9 => h9) dX12_unit_15 ?_
    obtain ⟨zi401, eq400⟩ := rd_64000 ok0 kd399 ((zi11 : Int32).toNatClampNeg)
    refine p_iald (v := zi401) hx hb hK hw hW kd399 (by decide) rfl (hW.len kd399 (n := 403) rfl (by decide)) (vp_b bd12 (by decide) (by decide)) eq400 dX12_unit_18 ?_
    refine kq_v hw hS hA (va_runV (As := [.int 0, .int zi401]) (rest := []) ⟨hx, hb, hml, hown, hT⟩ (cX12_emit_0 l G cy ev K ln Ls hW _ hp0 ok0 qa900 0 zi401 kd900 (b_wid2 bc_0 (by decide) (by decide)) (by simp only [gi_of eq1]; omega)) (cwV 2 hT (good_V tb_1711 tb_1708 tb_1710 tb_73 tb_122) rfl rfl rfl (by decide +kernel) ⟨Nat.le_of_ble_eq_true rfl, Nat.le_of_ble_eq_true rfl⟩) (pool_preV (ci := 12) hK hE hS hA hw hW kd900 (by decide) rfl) rfl rfl hl.1 rfl (lv_room (Nat.le_of_ble_eq_true rfl)) dX12_unit_19 ⟨Nat.le_of_ble_eq_true rfl, Nat.le_of_ble_eq_true rfl⟩) (fun hp402 H locs hq405 hw hS => ?_)
    obtain ⟨ok403, F404, ⟨zi407, eq408, bd409⟩, xq410, rh411⟩ := hq405
    have hw : PW G cy K ln Ls A hp402 H := hw
    simp only [gi_of eq1, gi_of eq408] at rh411
    have ei412 : EIx hp402 qa900 gc0 1 := EI_unit ok0 kd900 pdEI0 xq410 F404 (by have := toi bc_0; omega)
    have lp413 : LPx hp402 qa900 := LP_emit ok0 kd900 pdLPx xq410 F404 (by rw [gi_of eq1, gi_of eq7]; omega)
    refine lv_aload_n hx hb dX12_unit_22 rfl (lv_at hl 0 rfl) ?_
    have eq414 : hp402 qa900 13 = .int zi5 := Eq.trans (Fr.at (cq := 13013) F404 kd900 (cd_o (by decide)) (by decide)) eq4
    have eq415 : hp402 qa900 11 = .int zi11 := Eq.trans (Fr.at (cq := 13011) F404 kd900 (cd_o (by decide)) (by decide)) eq10
    refine kq_v hw hS hA (va_runV (As := []) (rest := []) ⟨hx, hb, hml, hown, hT⟩ (cX12_goesOn_0 l G cy ev K ln Ls hW _ hp402 ok403 qa900 kd900) (cwV 0 hT (good_V tb_1639 tb_1636 tb_1638 tb_56 tb_122) rfl rfl rfl (by decide +kernel) ⟨Nat.le_of_ble_eq_true rfl, Nat.le_of_ble_eq_true rfl⟩) (pool_preV (ci := 12) hK hE hS hA hw hW kd900 (by decide) rfl) rfl rfl hl.1 rfl (lv_room (Nat.le_of_ble_eq_true rfl)) dX12_unit_23 ⟨Nat.le_of_ble_eq_true rfl, Nat.le_of_ble_eq_true rfl⟩) (fun hp416 H locs hq419 hw hS => ?_)
    obtain ⟨ok417, F418, ⟨zi421, eq422, bd423⟩, rh424, rh425, rh426⟩ := hq419
    have hw : PW G cy K ln Ls A hp416 H := hw
    obtain ⟨zi428, eq427, bd429⟩ := rd_13013 ok417 kd900
    simp only [gi_of eq414, gi_of eq415, gi_of eq422, gi_of eq427] at rh424
    simp only [gi_of eq414, gi_of eq427] at rh425
    simp only [gi_of eq415, gi_of eq422, gi_of eq427] at rh426
    refine lv_goto (tgt := 115) hx hb dX12_unit_26 (by decide) ?_
    have pd430 : LPx hp416 qa900 := LP_fr ok403 kd900 (show Fr [13011, 13013, 13014] K hp402 hp416 from (Fr.tr (Fr.rf) F418 (by decide))) (by decide) lp413
    have pd431 : EIx hp416 qa900 gc0 1 := EI_fr ok403 kd900 (show Fr [13011, 13013, 13014] K hp402 hp416 from (Fr.tr (Fr.rf) F418 (by decide))) (by decide) ei412
    have eq432 : hp416 qa900 38 = .int zi407 := Eq.trans (Fr.at (cq := 13038) F418 kd900 (cd_o (by decide)) (by decide)) eq408
    have eq433 : hp416 qa900 19 = .int zi8 := Eq.trans (Fr.at (cq := 13019) F418 kd900 (cd_o (by decide)) (by decide)) (Eq.trans (Fr.at (cq := 13019) F404 kd900 (cd_o (by decide)) (by decide)) eq7)
    have eq434 : hp416 qa900 45 = .int zi14 := Eq.trans (Fr.at (cq := 13045) F418 kd900 (cd_o (by decide)) (by decide)) (Eq.trans (Fr.at (cq := 13045) F404 kd900 (cd_o (by decide)) (by decide)) eq13)
    rw [hQ]
    exact kz_v hx hb hr hlocks hS hp416 hw ⟨ok417, (Fr.tr (Fr.tr (Fr.rf) F404 (by decide)) F418 (by decide)), (pd430), (fun _ => pd431), (by simp only [gi_of eq10, gi_of eq4, gi_of eq422, gi_of eq427]; omega), (by simp only [gi_of eq4, gi_of eq427]; omega), (by simp only [gi_of eq10, gi_of eq422, gi_of eq427]; omega), (by simp only [gi_of eq422, gi_of eq427, gi_of eq432, gi_of eq433, gi_of eq434]; omega)⟩ (Nat.le_of_ble_eq_true rfl) (Nat.le_of_ble_eq_true rfl) dX12_unit_115
