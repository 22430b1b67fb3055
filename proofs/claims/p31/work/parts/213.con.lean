set_option maxRecDepth 100000 in
set_option maxHeartbeats 4000000 in
theorem cX12_takes_0 (l : Launch) (G : va_G) (cy : Nat → ClassId) (ev : Ew) (K ln : Nat → Nat) (Ls : List Nat) (hW : SW K ln Ls) (sz : Nat) (hp0 : Nat → Nat → Value) (ok0 : Ok K hp0) (qa900 : Nat) (wl901 : Int64) (kd900 : K qa900 = 13) (rp0 : (gi hp0 qa900 12) ≤ 6 + (gi hp0 qa900 13)) : Met l yX12_takes (WS yX12_takes cX12_takes 6 (some .boolean)) { frames := 2, cells := 0, slots := 0, locals := 41 } (PB2 [.ref qa900, .long wl901] sz G cy ev (va_pl Ls (cellOf cy K ln hp0))) (QBi (S := (Nat → Nat → Value)) (fun (r : Int32) (u : (Nat → Nat → Value)) => Ok K u ∧ Fr [13011, 13012, 13013, 13014, 86000, 87000] K hp0 u ∧ ((0 : Int) ≤ r.toInt ∧ r.toInt ≤ 1) ∧ (r = 1 → ∃ z : Int32, u qa900 11 = .int z ∧ ((1 : Int) ≤ z.toInt ∧ z.toInt ≤ 400)) ∧ (4*(gi u qa900 11) + (gi u qa900 13) ≥ 4*(gi hp0 qa900 11) + (gi hp0 qa900 13)) ∧ ((gi u qa900 13) ≥ (gi hp0 qa900 13)) ∧ ((gi u qa900 12) ≤ 6 + (gi u qa900 13)) ∧ (r = 0 → (gi u qa900 12) ≤ 7*(gi u qa900 13))) G (fun u => va_pl Ls (cellOf cy K ln u)) (va_A (va_pl Ls (cellOf cy K ln hp0)) sz)) 0 0 (va_A (va_pl Ls (cellOf cy K ln hp0)) sz) := by
  refine met_of2 (y := yX12_takes) (L := 6) (av := [.ref qa900, .long wl901]) (Qc := fun A => QBi (S := (Nat → Nat → Value)) (fun (r : Int32) (u : (Nat → Nat → Value)) => Ok K u ∧ Fr [13011, 13012, 13013, 13014, 86000, 87000] K hp0 u ∧ ((0 : Int) ≤ r.toInt ∧ r.toInt ≤ 1) ∧ (r = 1 → ∃ z : Int32, u qa900 11 = .int z ∧ ((1 : Int) ≤ z.toInt ∧ z.toInt ≤ 400)) ∧ (4*(gi u qa900 11) + (gi u qa900 13) ≥ 4*(gi hp0 qa900 11) + (gi hp0 qa900 13)) ∧ ((gi u qa900 13) ≥ (gi hp0 qa900 13)) ∧ ((gi u qa900 12) ≤ 6 + (gi u qa900 13)) ∧ (r = 0 → (gi u qa900 12) ≤ 7*(gi u qa900 13))) G (fun u => va_pl Ls (cellOf cy K ln u)) A) (plainFor_of_name (by decide)) (Nat.le_of_ble_eq_true rfl) ?_
  intro p e s m below meth c hsz hx hb hr hml hown hT hlocks hin hK A hA hE hw hS ls hl
  have hw : PW G cy K ln Ls A hp0 s.heap := hw
  have hown : s.vm.findClass "LieClockModel" = some m.cls := hown
  have hl : lv_has ls 6 [(0, .ref qa900), (1, .long wl901)] := hl
  obtain ⟨Q, hQ⟩ : ∃ Q : State → Prop, Q = MQ below (QBi (S := (Nat → Nat → Value)) (fun (r : Int32) (u : (Nat → Nat → Value)) => Ok K u ∧ Fr [13011, 13012, 13013, 13014, 86000, 87000] K hp0 u ∧ ((0 : Int) ≤ r.toInt ∧ r.toInt ≤ 1) ∧ (r = 1 → ∃ z : Int32, u qa900 11 = .int z ∧ ((1 : Int) ≤ z.toInt ∧ z.toInt ≤ 400)) ∧ (4*(gi u qa900 11) + (gi u qa900 13) ≥ 4*(gi hp0 qa900 11) + (gi hp0 qa900 13)) ∧ ((gi u qa900 13) ≥ (gi hp0 qa900 13)) ∧ ((gi u qa900 12) ≤ 6 + (gi u qa900 13)) ∧ (r = 0 → (gi u qa900 12) ≤ 7*(gi u qa900 13))) G (fun u => va_pl Ls (cellOf cy K ln u)) A) ([.ref qa900, .long wl901] : List Value).toArray s 0 0 A := ⟨_, rfl⟩
  rw [← hQ]
  obtain ⟨zi2, eq1, bd3⟩ := rd_13013 ok0 kd900
  obtain ⟨zi5, eq4, bd6⟩ := rd_13012 ok0 kd900
  obtain ⟨zi8, eq7, bd9⟩ := rd_13011 ok0 kd900
  have rq0 := rp0
  simp only [gi_of eq1, gi_of eq4] at rq0
  refine lv_lload_n hx hb dX12_takes_0 rfl (lv_at hl 1 rfl) ?_
  refine lv_lstore_n (lv' := [(3, .long wl901), (0, .ref qa900), (1, .long wl901)]) hx hb dX12_takes_1 rfl hl (by decide) rfl (fun ls hl => ?_)
  refine lv_iconst (v := 1) hx hb dX12_takes_2 (by decide) ?_
  refine lv_istore (lv' := [(5, .int 1), (3, .long wl901), (0, .ref qa900), (1, .long wl901)]) hx hb dX12_takes_3 hl (by decide) rfl (fun ls hl => ?_)
  have lp1111 : ∀ (n1109 : Nat) (hp674 : Nat → Nat → Value) (wl673 : Int64) (zi679 : Int32) (zi682 : Int32) (zi684 : Int32) (H : Heap) (locs : List Loc) (ls : Array Slot), 1602 - 4*zi679.toInt - zi682.toInt < (n1109 : Int) → Ok K hp674 → Fr [13011, 13012, 13013, 13014, 86000, 87000] K hp0 hp674 → ((0 : Int) ≤ zi679.toInt ∧ zi679.toInt ≤ 400) → hp674 qa900 11 = .int zi679 → ((0 : Int) ≤ zi682.toInt ∧ zi682.toInt ≤ 2) → hp674 qa900 13 = .int zi682 → ((0 : Int) ≤ zi684.toInt ∧ zi684.toInt ≤ 7) → hp674 qa900 12 = .int zi684 → (4*zi679.toInt + zi682.toInt ≥ 4*zi8.toInt + zi2.toInt) → (zi682.toInt ≥ zi2.toInt) → (zi684.toInt ≤ 6 + zi682.toInt) → lv_has ls 6 [(0, .ref qa900), (3, .long wl673), (5, .int 1)] → PW G cy K ln Ls A hp674 H → va_S A s.heap H locs → W p l e ({ frames := 2, cells := 0, slots := 0, locals := 41 } : Room) s m ([.ref qa900, .long wl901] : List Value).toArray below meth c H locs 0 0 Q (F0 m 5 ls []) := by
    intro n1109
    induction n1109 with
    | zero =>
      intro hp674 wl673 zi679 zi682 zi684 H locs ls hm1112 ok676 F675 bd688 eq678 bd689 eq681 bd690 eq683 rq685 rq686 rq687 hl hw hS
      exact absurd hm1112 (by omega)
    | succ n1109 ih1110 =>
      intro hp674 wl673 zi679 zi682 zi684 H locs ls hm1112 ok676 F675 bd688 eq678 bd689 eq681 bd690 eq683 rq685 rq686 rq687 hl hw hS
      refine lv_iload hx hb dX12_takes_5 (lv_at hl 2 rfl) ?_
      refine lv_if_eq (tgt := 165) hx hb dX12_takes_7 (by decide) (fun c => absurd c (d_ne bc_1 bc_0 (by decide))) (fun _ => ?_)
      refine lv_aload_n hx hb dX12_takes_10 rfl (lv_at hl 0 rfl) ?_
      obtain ⟨qa1114, eq1113, kd1115⟩ := rd_13042 ok676 kd900
      refine p_get (ci := 12) (v := .ref qa1114) (C := RX12) (T := TX12) (N := 69) hx hb hT iw_X12 hown hK hw hW kd900 (by decide) rfl rfl 42 (by decide) eq1113 (hT _ tb_1416) (fun _ h9 => h9) dX12_takes_11 ?_
      refine lv_aload_n hx hb dX12_takes_14 rfl (lv_at hl 0 rfl) ?_
      refine p_get (ci := 12) (v := .int zi684) (C := RX12) (T := TX12) (N := 69) hx hb hT iw_X12 hown hK hw hW kd900 (by decide) rfl rfl 12 (by decide) eq683 (hT _ tb_1386) (fun _ h9 => h9) dX12_takes_15 ?_
      refine lv_dup2_11 hx hb dX12_takes_18 rfl rfl ?_
      obtain ⟨wl1117, eq1116⟩ := rd_87000 ok676 kd1115 ((zi684 : Int32).toNatClampNeg)
      refine p_lald (v := wl1117) hx hb hK hw hW kd1115 (by decide) rfl (hW.len kd1115 (n := 8) rfl (by decide)) (vp_b bd690 (by decide) (by decide)) eq1116 dX12_takes_19 ?_
      refine lv_aload_n hx hb dX12_takes_20 rfl (lv_at hl 0 rfl) ?_
      obtain ⟨qa1119, eq1118, kd1120⟩ := rd_13043 ok676 kd900
      refine p_get (ci := 12) (v := .ref qa1119) (C := RX12) (T := TX12) (N := 69) hx hb hT iw_X12 hown hK hw hW kd900 (by decide) rfl rfl 43 (by decide) eq1118 (hT _ tb_1417) (fun _ h9 => h9) dX12_takes_21 ?_
      refine lv_aload_n hx hb dX12_takes_24 rfl (lv_at hl 0 rfl) ?_
      refine p_get (ci := 12) (v := .int zi684) (C := RX12) (T := TX12) (N := 69) hx hb hT iw_X12 hown hK hw hW kd900 (by decide) rfl rfl 12 (by decide) eq683 (hT _ tb_1386) (fun _ h9 => h9) dX12_takes_25 ?_
      obtain ⟨zi1122, eq1121, bd1123⟩ := rd_88000 ok676 kd1120 ((zi684 : Int32).toNatClampNeg)
      refine p_zald (v := zi1122) hx hb hK hw hW kd1120 (by decide) rfl (hW.len kd1120 (n := 8) rfl (by decide)) (vp_b bd690 (by decide) (by decide)) eq1121 dX12_takes_28 ?_
      have jn1130 : ∀ (wl1129 : Int64) (H : Heap) (locs : List Loc) (ls : Array Slot), lv_has ls 6 [(0, .ref qa900), (5, .int 1)] → PW G cy K ln Ls A hp674 H → va_S A s.heap H locs → W p l e ({ frames := 2, cells := 0, slots := 0, locals := 41 } : Room) s m ([.ref qa900, .long wl901] : List Value).toArray below meth c H locs 0 0 Q (F0 m 41 ls [.long wl1129, .long wl1117, .int zi684, .ref qa1114]) := by
        intro wl1129 H locs ls hl hw hS
        refine lv_land hx hb dX12_takes_41 (lv_topl (fun wl1131 _ => ?_))
        refine p_last (x := wl1131) hx hb hK hw hS hW kd1115 (by decide) rfl (hW.len kd1115 (n := 8) rfl (by decide)) (vp_b bd690 (by decide) (by decide)) dX12_takes_42 (fun hp1132 eh1133 H locs hw hS => ?_)
        have ok1134 := wr_87000 ok676 kd1115 eh1133
        refine lv_aload_n hx hb dX12_takes_43 rfl (lv_at hl 0 rfl) ?_
        refine lv_bipush (v := 32) hx hb dX12_takes_44 (by decide) ?_
        have eq1135 : hp1132 qa900 13 = .int zi682 := Eq.trans (up_at eh1133 (Or.inl (kd_ne kd900 kd1115 (by decide)))) eq681
        obtain ⟨qa1137, eq1136, kd1138⟩ := rd_13005 ok1134 kd900
        have eq1139 : hp1132 qa900 11 = .int zi679 := Eq.trans (up_at eh1133 (Or.inl (kd_ne kd900 kd1115 (by decide)))) eq678
        obtain ⟨zi1141, eq1140⟩ := rd_62000 ok1134 kd1138 ((zi679 : Int32).toNatClampNeg)
        refine kq_i hw hS hA (va_runV (As := [.int 32]) (rest := []) ⟨hx, hb, hml, hown, hT⟩ (cX12_is_0 l G cy ev K ln Ls hW _ hp1132 ok1134 qa900 32 kd900) (cwV 1 hT (good_V tb_1623 tb_1620 tb_1622 tb_52 tb_122) rfl rfl rfl (by decide +kernel) ⟨Nat.le_of_ble_eq_true rfl, Nat.le_of_ble_eq_true rfl⟩) (pool_preV (ci := 12) hK hE hS hA hw hW kd900 (by decide) rfl) rfl rfl hl.1 rfl (lv_room (Nat.le_of_ble_eq_true rfl)) dX12_takes_46 ⟨Nat.le_of_ble_eq_true rfl, Nat.le_of_ble_eq_true rfl⟩) (fun zi1146 hp1142 H locs hq1145 hw hS => ?_)
        obtain ⟨ok1143, F1144, bd1147, hc1148, rh1149, rh1150, rh1151⟩ := hq1145
        obtain rfl : hp1132 = hp1142 := (Fr.nil F1144).symm
        have hw : PW G cy K ln Ls A hp1132 H := hw
        have eq1153 : hp1132 qa900 12 = .int zi684 := Eq.trans (up_at eh1133 (Or.inl (kd_ne kd900 kd1115 (by decide)))) eq683
        rcases b01 bd1147 with cn1152 | cn1152
        · skip
          subst cn1152
          have rh1154 := rh1151 rfl
          simp only [ge_of eq1136 eq1139 eq1140, gi_of eq1135, toi bc_32] at rh1154
          refine lv_if_eq (tgt := 58) hx hb dX12_takes_49 (by decide) (fun _ => ?_) (fun c => absurd (d_eq bc_0 bc_0) c)
          refine lv_aload_n hx hb dX12_takes_58 rfl (lv_at hl 0 rfl) ?_
          obtain ⟨qa1156, eq1155, kd1157⟩ := rd_13041 ok1134 kd900
          refine p_get (ci := 12) (v := .ref qa1156) (C := RX12) (T := TX12) (N := 69) hx hb hT iw_X12 hown hK hw hW kd900 (by decide) rfl rfl 41 (by decide) eq1155 (hT _ tb_1415) (fun _ h9 => h9) dX12_takes_59 ?_
          refine lv_aload_n hx hb dX12_takes_62 rfl (lv_at hl 0 rfl) ?_
          refine p_get (ci := 12) (v := .int zi684) (C := RX12) (T := TX12) (N := 69) hx hb hT iw_X12 hown hK hw hW kd900 (by decide) rfl rfl 12 (by decide) eq1153 (hT _ tb_1386) (fun _ h9 => h9) dX12_takes_63 ?_
          refine lv_dup2_11 hx hb dX12_takes_66 rfl rfl ?_
          obtain ⟨wl1159, eq1158⟩ := rd_86000 ok1134 kd1157 ((zi684 : Int32).toNatClampNeg)
          refine p_lald (v := wl1159) hx hb hK hw hW kd1157 (by decide) rfl (hW.len kd1157 (n := 8) rfl (by decide)) (vp_b bd690 (by decide) (by decide)) eq1158 dX12_takes_67 ?_
          refine lv_aload_n hx hb dX12_takes_68 rfl (lv_at hl 0 rfl) ?_
          have eq1160 : hp1132 qa900 42 = .ref qa1114 := Eq.trans (up_at eh1133 (Or.inl (kd_ne kd900 kd1115 (by decide)))) eq1113
          refine p_get (ci := 12) (v := .ref qa1114) (C := RX12) (T := TX12) (N := 69) hx hb hT iw_X12 hown hK hw hW kd900 (by decide) rfl rfl 42 (by decide) eq1160 (hT _ tb_1416) (fun _ h9 => h9) dX12_takes_69 ?_
          refine lv_aload_n hx hb dX12_takes_72 rfl (lv_at hl 0 rfl) ?_
          refine p_get (ci := 12) (v := .int zi684) (C := RX12) (T := TX12) (N := 69) hx hb hT iw_X12 hown hK hw hW kd900 (by decide) rfl rfl 12 (by decide) eq1153 (hT _ tb_1386) (fun _ h9 => h9) dX12_takes_73 ?_
          refine p_lald (v := wl1131) hx hb hK hw hW kd1115 (by decide) rfl (hW.len kd1115 (n := 8) rfl (by decide)) (vp_b bd690 (by decide) (by decide)) (hp_self eh1133) dX12_takes_76 ?_
          refine lv_lor hx hb dX12_takes_77 (lv_topl (fun wl1161 _ => ?_))
          refine p_last (x := wl1161) hx hb hK hw hS hW kd1157 (by decide) rfl (hW.len kd1157 (n := 8) rfl (by decide)) (vp_b bd690 (by decide) (by decide)) dX12_takes_78 (fun hp1162 eh1163 H locs hw hS => ?_)
          have ok1164 := wr_86000 ok1134 kd1157 eh1163
          refine lv_aload_n hx hb dX12_takes_79 rfl (lv_at hl 0 rfl) ?_
          have eq1165 : hp1162 qa900 42 = .ref qa1114 := Eq.trans (up_at eh1163 (Or.inl (kd_ne kd900 kd1157 (by decide)))) eq1160
          refine p_get (ci := 12) (v := .ref qa1114) (C := RX12) (T := TX12) (N := 69) hx hb hT iw_X12 hown hK hw hW kd900 (by decide) rfl rfl 42 (by decide) eq1165 (hT _ tb_1416) (fun _ h9 => h9) dX12_takes_80 ?_
          refine lv_aload_n hx hb dX12_takes_83 rfl (lv_at hl 0 rfl) ?_
          have eq1166 : hp1162 qa900 12 = .int zi684 := Eq.trans (up_at eh1163 (Or.inl (kd_ne kd900 kd1157 (by decide)))) eq1153
          refine p_get (ci := 12) (v := .int zi684) (C := RX12) (T := TX12) (N := 69) hx hb hT iw_X12 hown hK hw hW kd900 (by decide) rfl rfl 12 (by decide) eq1166 (hT _ tb_1386) (fun _ h9 => h9) dX12_takes_84 ?_
          refine lv_ldc2 (v := (-1)) hx hb hown (hT _ tb_1680) dX12_takes_87 ?_
          refine p_last (x := (-1)) hx hb hK hw hS hW kd1115 (by decide) rfl (hW.len kd1115 (n := 8) rfl (by decide)) (vp_b bd690 (by decide) (by decide)) dX12_takes_90 (fun hp1167 eh1168 H locs hw hS => ?_)
          have ok1169 := wr_87000 ok1164 kd1115 eh1168
          refine lv_aload_n hx hb dX12_takes_91 rfl (lv_at hl 0 rfl) ?_
          refine lv_bipush (v := 31) hx hb dX12_takes_92 (by decide) ?_
          have eq1170 : hp1167 qa900 13 = .int zi682 := Eq.trans (up_at eh1168 (Or.inl (kd_ne kd900 kd1115 (by decide)))) (Eq.trans (up_at eh1163 (Or.inl (kd_ne kd900 kd1157 (by decide)))) eq1135)
          have eq1171 : hp1167 qa900 5 = .ref qa1137 := Eq.trans (up_at eh1168 (Or.inl (kd_ne kd900 kd1115 (by decide)))) (Eq.trans (up_at eh1163 (Or.inl (kd_ne kd900 kd1157 (by decide)))) eq1136)
          have eq1172 : hp1167 qa900 11 = .int zi679 := Eq.trans (up_at eh1168 (Or.inl (kd_ne kd900 kd1115 (by decide)))) (Eq.trans (up_at eh1163 (Or.inl (kd_ne kd900 kd1157 (by decide)))) eq1139)
          have eq1173 : hp1167 qa1137 (zi679 : Int32).toNatClampNeg = .int zi1141 := Eq.trans (up_at eh1168 (Or.inl (kd_ne kd1138 kd1115 (by decide)))) (Eq.trans (up_at eh1163 (Or.inl (kd_ne kd1138 kd1157 (by decide)))) eq1140)
          refine kq_i hw hS hA (va_runV (As := [.int 31]) (rest := []) ⟨hx, hb, hml, hown, hT⟩ (cX12_is_0 l G cy ev K ln Ls hW _ hp1167 ok1169 qa900 31 kd900) (cwV 1 hT (good_V tb_1623 tb_1620 tb_1622 tb_52 tb_122) rfl rfl rfl (by decide +kernel) ⟨Nat.le_of_ble_eq_true rfl, Nat.le_of_ble_eq_true rfl⟩) (pool_preV (ci := 12) hK hE hS hA hw hW kd900 (by decide) rfl) rfl rfl hl.1 rfl (lv_room (Nat.le_of_ble_eq_true rfl)) dX12_takes_94 ⟨Nat.le_of_ble_eq_true rfl, Nat.le_of_ble_eq_true rfl⟩) (fun zi1178 hp1174 H locs hq1177 hw hS => ?_)
          obtain ⟨ok1175, F1176, bd1179, hc1180, rh1181, rh1182, rh1183⟩ := hq1177
          obtain rfl : hp1167 = hp1174 := (Fr.nil F1176).symm
          have hw : PW G cy K ln Ls A hp1167 H := hw
          have eq1185 : hp1167 qa900 12 = .int zi684 := Eq.trans (up_at eh1168 (Or.inl (kd_ne kd900 kd1115 (by decide)))) eq1166
          rcases b01 bd1179 with cn1184 | cn1184
          · skip
            subst cn1184
            have rh1186 := rh1183 rfl
            simp only [ge_of eq1171 eq1172 eq1173, gi_of eq1170, toi bc_31] at rh1186
            refine lv_if_eq (tgt := 106) hx hb dX12_takes_97 (by decide) (fun _ => ?_) (fun c => absurd (d_eq bc_0 bc_0) c)
            refine lv_aload_n hx hb dX12_takes_106 rfl (lv_at hl 0 rfl) ?_
            refine p_get (ci := 12) (v := .int zi684) (C := RX12) (T := TX12) (N := 69) hx hb hT iw_X12 hown hK hw hW kd900 (by decide) rfl rfl 12 (by decide) eq1185 (hT _ tb_1386) (fun _ h9 => h9) dX12_takes_107 ?_
            refine lv_if_ne (tgt := 115) hx hb dX12_takes_110 (by decide) (fun cn1187 => ?_) (fun cn1187 => ?_)
            · skip
              have tf1188 : (zi684 : Int32).toInt ≠ (0 : Int32).toInt := fun e => cn1187 (Int32.toInt_inj.mp e)
              have := toi bc_0
              have bd1189 : (1 : Int) ≤ zi684.toInt ∧ zi684.toInt ≤ 7 := r_ne_lo cn1187 bd690 (toi bc_0) (by decide) (by decide)
              refine lv_aload_n hx hb dX12_takes_115 rfl (lv_at hl 0 rfl) ?_
              refine lv_bipush (v := 7) hx hb dX12_takes_116 (by decide) ?_
              refine kq_i hw hS hA (va_runV (As := [.int 7]) (rest := []) ⟨hx, hb, hml, hown, hT⟩ (cX12_is_0 l G cy ev K ln Ls hW _ hp1167 ok1169 qa900 7 kd900) (cwV 1 hT (good_V tb_1623 tb_1620 tb_1622 tb_52 tb_122) rfl rfl rfl (by decide +kernel) ⟨Nat.le_of_ble_eq_true rfl, Nat.le_of_ble_eq_true rfl⟩) (pool_preV (ci := 12) hK hE hS hA hw hW kd900 (by decide) rfl) rfl rfl hl.1 rfl (lv_room (Nat.le_of_ble_eq_true rfl)) dX12_takes_118 ⟨Nat.le_of_ble_eq_true rfl, Nat.le_of_ble_eq_true rfl⟩) (fun zi1194 hp1190 H locs hq1193 hw hS => ?_)
              obtain ⟨ok1191, F1192, bd1195, hc1196, rh1197, rh1198, rh1199⟩ := hq1193
              obtain rfl : hp1167 = hp1190 := (Fr.nil F1192).symm
              have hw : PW G cy K ln Ls A hp1167 H := hw
              have jn1227 : ∀ (hp1218 : Nat → Nat → Value) (zi1222 : Int32) (H : Heap) (locs : List Loc) (ls : Array Slot), Ok K hp1218 → Fr [13013, 13014] K hp1167 hp1218 → ((0 : Int) ≤ zi1222.toInt ∧ zi1222.toInt ≤ 2) → hp1218 qa900 13 = .int zi1222 → (4*zi679.toInt + zi1222.toInt ≥ 4*zi679.toInt + zi682.toInt) → (zi1222.toInt ≥ zi682.toInt) → (zi684.toInt ≤ 6 + zi1222.toInt) → lv_has ls 6 [(0, .ref qa900), (5, .int 1)] → PW G cy K ln Ls A hp1218 H → va_S A s.heap H locs → W p l e ({ frames := 2, cells := 0, slots := 0, locals := 41 } : Room) s m ([.ref qa900, .long wl901] : List Value).toArray below meth c H locs 0 0 Q (F0 m 129 ls []) := by
                intro hp1218 zi1222 H locs ls ok1220 F1219 bd1226 eq1221 rq1223 rq1224 rq1225 hl hw hS
                refine lv_aload_n hx hb dX12_takes_129 rfl (lv_at hl 0 rfl) ?_
                refine p_get (ci := 12) (v := .int zi1222) (C := RX12) (T := TX12) (N := 69) hx hb hT iw_X12 hown hK hw hW kd900 (by decide) rfl rfl 13 (by decide) eq1221 (hT _ tb_1387) (fun _ h9 => h9) dX12_takes_130 ?_
                have eq1229 : hp1218 qa900 11 = .int zi679 := Eq.trans (Fr.at (cq := 13011) F1219 kd900 (cd_o (by decide)) (by decide)) eq1172
                have eq1230 : hp1218 qa900 12 = .int zi684 := Eq.trans (Fr.at (cq := 13012) F1219 kd900 (cd_o (by decide)) (by decide)) eq1185
                refine lv_if_le (tgt := 138) hx hb dX12_takes_133 (by decide) (fun cn1228 => ?_) (fun cn1228 => ?_)
                · skip
                  have bd1231 : (0 : Int) ≤ zi1222.toInt ∧ zi1222.toInt ≤ 0 := r_le_x cn1228 bd1226 bc_0 (by decide) (by decide)
                  refine lv_aload_n hx hb dX12_takes_138 rfl (lv_at hl 0 rfl) ?_
                  refine kq_v hw hS hA (va_runV (As := []) (rest := []) ⟨hx, hb, hml, hown, hT⟩ (cX12_goesOn_0 l G cy ev K ln Ls hW _ hp1218 ok1220 qa900 kd900) (cwV 0 hT (good_V tb_1639 tb_1636 tb_1638 tb_56 tb_122) rfl rfl rfl (by decide +kernel) ⟨Nat.le_of_ble_eq_true rfl, Nat.le_of_ble_eq_true rfl⟩) (pool_preV (ci := 12) hK hE hS hA hw hW kd900 (by decide) rfl) rfl rfl hl.1 rfl (lv_room (Nat.le_of_ble_eq_true rfl)) dX12_takes_139 ⟨Nat.le_of_ble_eq_true rfl, Nat.le_of_ble_eq_true rfl⟩) (fun hp1232 H locs hq1235 hw hS => ?_)
                  obtain ⟨ok1233, F1234, ⟨zi1237, eq1238, bd1239⟩, rh1240, rh1241, rh1242⟩ := hq1235
                  have hw : PW G cy K ln Ls A hp1232 H := hw
                  obtain ⟨zi1244, eq1243, bd1245⟩ := rd_13013 ok1233 kd900
                  simp only [gi_of eq1221, gi_of eq1229, gi_of eq1238, gi_of eq1243] at rh1240
                  simp only [gi_of eq1221, gi_of eq1243] at rh1241
                  simp only [gi_of eq1229, gi_of eq1238, gi_of eq1243] at rh1242
                  refine lv_aload_n hx hb dX12_takes_142 rfl (lv_at hl 0 rfl) ?_
                  have eq1246 : hp1232 qa900 41 = .ref qa1156 := Eq.trans (Fr.at (cq := 13041) F1234 kd900 (cd_o (by decide)) (by decide)) (Eq.trans (Fr.at (cq := 13041) F1219 kd900 (cd_o (by decide)) (by decide)) (Eq.trans (up_at eh1168 (Or.inl (kd_ne kd900 kd1115 (by decide)))) (Eq.trans (up_at eh1163 (Or.inl (kd_ne kd900 kd1157 (by decide)))) eq1155)))
                  refine p_get (ci := 12) (v := .ref qa1156) (C := RX12) (T := TX12) (N := 69) hx hb hT iw_X12 hown hK hw hW kd900 (by decide) rfl rfl 41 (by decide) eq1246 (hT _ tb_1415) (fun _ h9 => h9) dX12_takes_143 ?_
                  refine lv_aload_n hx hb dX12_takes_146 rfl (lv_at hl 0 rfl) ?_
                  have eq1247 : hp1232 qa900 12 = .int zi684 := Eq.trans (Fr.at (cq := 13012) F1234 kd900 (cd_o (by decide)) (by decide)) eq1230
                  refine p_get (ci := 12) (v := .int zi684) (C := RX12) (T := TX12) (N := 69) hx hb hT iw_X12 hown hK hw hW kd900 (by decide) rfl rfl 12 (by decide) eq1247 (hT _ tb_1386) (fun _ h9 => h9) dX12_takes_147 ?_
                  have eq1248 : hp1232 qa1156 (zi684 : Int32).toNatClampNeg = .long wl1161 := Eq.trans (Fr.at (cq := 86000) F1234 kd1157 (cd_a (by decide)) (by decide)) (Eq.trans (Fr.at (cq := 86000) F1219 kd1157 (cd_a (by decide)) (by decide)) (Eq.trans (up_at eh1168 (Or.inl (kd_ne kd1157 kd1115 (by decide)))) (hp_self eh1163)))
                  refine p_lald (v := wl1161) hx hb hK hw hW kd1157 (by decide) rfl (hW.len kd1157 (n := 8) rfl (by decide)) (vp_b bd1189 (by decide) (by decide)) eq1248 dX12_takes_150 ?_
                  refine lv_lstore_n (lv' := [(3, .long wl1161), (0, .ref qa900), (5, .int 1)]) hx hb dX12_takes_151 rfl hl (by decide) rfl (fun ls hl => ?_)
                  refine lv_aload_n hx hb dX12_takes_152 rfl (lv_at hl 1 rfl) ?_
                  refine lv_dup hx hb dX12_takes_153 rfl ?_
                  refine p_get (ci := 12) (v := .int zi684) (C := RX12) (T := TX12) (N := 69) hx hb hT iw_X12 hown hK hw hW kd900 (by decide) rfl rfl 12 (by decide) eq1247 (hT _ tb_1386) (fun _ h9 => h9) dX12_takes_154 ?_
                  refine lv_iconst (v := 1) hx hb dX12_takes_157 (by decide) ?_
                  refine lv_isub hx hb dX12_takes_158 (lv_topi (fun zi1249 ea1250 => ?_))
                  have bd1251 : (0 : Int) ≤ zi1249.toInt ∧ zi1249.toInt ≤ 6 := b_isub ea1250 bd1189 bc_1 (by decide) (by decide) (by decide) (by decide)
                  have qe1252 : zi1249.toInt = (zi684 : Int32).toInt - (1 : Int32).toInt := e_isub ea1250 bd1189 bc_1 (by decide) (by decide)
                  have qe1253 : zi1249.toInt = zi684.toInt - 1 := by have ha : (1 : Int32).toInt = 1 := (by decide); rw [ha] at qe1252; exact qe1252
                  refine p_put (ci := 12) (v := .int zi1249) (ty := .int) (C := RX12) (T := TX12) (N := 69) hx hb hT iw_X12 tyX12 tyX12_ok nmX12 hown hK hw hS hW kd900 (by decide) rfl rfl 12 (by decide) (hT _ tb_1386) (fun _ h9 => h9) rfl (by decide +kernel) rfl rfl dX12_takes_159 (fun hp1254 eh1255 H locs hw hS => ?_)
                  have ok1256 := wr_13012 bd1251 (by decide) (by decide) ok1233 kd900 eh1255
                  refine lv_goto (tgt := 5) hx hb dX12_takes_162 (by decide) ?_
                  have eq1257 : hp1254 qa900 11 = .int zi1237 := Eq.trans (up_at eh1255 (Or.inr (by decide))) eq1238
                  have eq1258 : hp1254 qa900 13 = .int zi1244 := Eq.trans (up_at eh1255 (Or.inr (by decide))) eq1243
                  exact ih1110 hp1254 wl1161 zi1237 zi1244 zi1249 _ _ ls (by have := toi bc_1; have := hm1112; omega) ok1256 (Fr.put (cq := 13012) (Fr.tr (Fr.tr (Fr.put (cq := 87000) (Fr.put (cq := 86000) (Fr.put (cq := 87000) (Fr.tr (Fr.rf) F675 (by decide)) eh1133 kd1115 (cd_a (by decide)) (by decide)) eh1163 kd1157 (cd_a (by decide)) (by decide)) eh1168 kd1115 (cd_a (by decide)) (by decide)) F1219 (by decide)) F1234 (by decide)) eh1255 kd900 (cd_o (by decide)) (by decide)) (b_wid2 bd1239 (by decide) (by decide)) eq1257 (b_wid2 bd1245 (by decide) (by decide)) eq1258 (b_wid2 bd1251 (by decide) (by decide)) (hp_self eh1255) (by have := toi bc_1; omega) (by have := toi bc_1; omega) (by have := toi bc_1; omega) (lv_sub hl [1, 0, 2] rfl) hw hS
                · skip
                  have bd1259 : (1 : Int) ≤ zi1222.toInt ∧ zi1222.toInt ≤ 2 := r_lt_y (Int32.not_le.mp cn1228) bc_0 bd1226 (by decide) (by decide)
                  refine lv_iconst (v := 0) hx hb dX12_takes_136 (by decide) ?_
                  rw [hQ]
                  exact kz_i hx hb hr hlocks hS (nz_n bc_0 (by decide) (by decide)) hp1218 hw ⟨ok1220, (Fr.tr (Fr.put (cq := 87000) (Fr.put (cq := 86000) (Fr.put (cq := 87000) (Fr.tr (Fr.rf) F675 (by decide)) eh1133 kd1115 (cd_a (by decide)) (by decide)) eh1163 kd1157 (cd_a (by decide)) (by decide)) eh1168 kd1115 (cd_a (by decide)) (by decide)) F1219 (by decide)), (b_wid2 bc_0 (by decide) (by decide)), (fun h => absurd h (by decide)), (by simp only [gi_of eq1, gi_of eq1221, gi_of eq1229, gi_of eq7]; omega), (by simp only [gi_of eq1, gi_of eq1221]; omega), (by simp only [gi_of eq1221, gi_of eq1230]; omega), (fun _ => by simp only [gi_of eq1221, gi_of eq1230]; omega)⟩ (Nat.le_of_ble_eq_true rfl) (Nat.le_of_ble_eq_true rfl) dX12_takes_137
              rcases b01 bd1195 with cn1200 | cn1200
              · skip
                subst cn1200
                have rh1260 := rh1199 rfl
                simp only [ge_of eq1171 eq1172 eq1173, gi_of eq1170, toi bc_7] at rh1260
                refine lv_if_ne (tgt := 129) hx hb dX12_takes_121 (by decide) (fun c => absurd (d_eq bc_0 bc_0) c) (fun _ => ?_)
                refine lv_aload_n hx hb dX12_takes_124 rfl (lv_at hl 0 rfl) ?_
                refine lv_iconst (v := 1) hx hb dX12_takes_125 (by decide) ?_
                refine kq_v hw hS hA (va_runV (As := [.int 1]) (rest := []) ⟨hx, hb, hml, hown, hT⟩ (cX12_fail_0 l G cy ev K ln Ls hW _ hp1167 ok1169 qa900 1 kd900 (b_wid2 bc_1 (by decide) (by decide))) (cwV 1 hT (good_V tb_1635 tb_1632 tb_1634 tb_55 tb_122) rfl rfl rfl (by decide +kernel) ⟨Nat.le_of_ble_eq_true rfl, Nat.le_of_ble_eq_true rfl⟩) (pool_preV (ci := 12) hK hE hS hA hw hW kd900 (by decide) rfl) rfl rfl hl.1 rfl (lv_room (Nat.le_of_ble_eq_true rfl)) dX12_takes_126 ⟨Nat.le_of_ble_eq_true rfl, Nat.le_of_ble_eq_true rfl⟩) (fun hp1261 H locs hq1264 hw hS => ?_)
                obtain ⟨ok1262, F1263, ⟨zi1266, eq1267, bd1268⟩, rh1269⟩ := hq1264
                have hw : PW G cy K ln Ls A hp1261 H := hw
                simp only [gi_of eq1170, gi_of eq1267] at rh1269
                have eq1270 : hp1261 qa900 11 = .int zi679 := Eq.trans (Fr.at (cq := 13011) F1263 kd900 (cd_o (by decide)) (by decide)) eq1172
                have eq1271 : hp1261 qa900 12 = .int zi684 := Eq.trans (Fr.at (cq := 13012) F1263 kd900 (cd_o (by decide)) (by decide)) eq1185
                exact jn1227 hp1261 zi1266 _ _ ls ok1262 (Fr.tr (Fr.rf) F1263 (by decide)) (b_wid2 bd1268 (by decide) (by decide)) eq1267 (by have := toi bc_1; omega) (by have := toi bc_1; omega) (by have := toi bc_1; omega) (lv_sub hl [0, 1] rfl) hw hS
              · skip
                subst cn1200
                obtain ⟨zi1272, eq1273, bd1274⟩ := hc1196 rfl
                have hx1275 : zi682 = zi1272 := Value.int.inj (Eq.trans (Eq.symm eq1170) eq1273)
                subst hx1275
                have bd1276 : (0 : Int) ≤ zi682.toInt ∧ zi682.toInt ≤ 0 := b_meet bd689 bd1274 (by decide) (by decide)
                have rh1277 := rh1197 rfl
                simp only [ge_of eq1171 eq1172 eq1173, toi bc_7] at rh1277
                have rh1278 := rh1198 rfl
                simp only [gi_of eq1170] at rh1278
                refine lv_if_ne (tgt := 129) hx hb dX12_takes_121 (by decide) (fun _ => ?_) (fun c => absurd c (d_ne bc_1 bc_0 (by decide)))
                exact jn1227 hp1167 zi682 _ _ ls ok1169 (Fr.rf) (b_wid2 bd1276 (by decide) (by decide)) eq1170 (by have := toi bc_1; omega) (by have := toi bc_1; omega) (by have := toi bc_1; omega) (lv_sub hl [0, 1] rfl) hw hS
            · skip
              have bd1279 : (0 : Int) ≤ zi684.toInt ∧ zi684.toInt ≤ 0 := r_eq_x cn1187 bd690 bc_0 (by decide) (by decide)
              refine lv_iconst (v := 0) hx hb dX12_takes_113 (by decide) ?_
              rw [hQ]
              exact kz_i hx hb hr hlocks hS (nz_n bc_0 (by decide) (by decide)) hp1167 hw ⟨ok1169, (Fr.put (cq := 87000) (Fr.put (cq := 86000) (Fr.put (cq := 87000) (Fr.tr (Fr.rf) F675 (by decide)) eh1133 kd1115 (cd_a (by decide)) (by decide)) eh1163 kd1157 (cd_a (by decide)) (by decide)) eh1168 kd1115 (cd_a (by decide)) (by decide)), (b_wid2 bc_0 (by decide) (by decide)), (fun h => absurd h (by decide)), (by simp only [gi_of eq1, gi_of eq1170, gi_of eq1172, gi_of eq7]; omega), (by simp only [gi_of eq1, gi_of eq1170]; omega), (by simp only [gi_of eq1170, gi_of eq1185]; omega), (fun _ => by simp only [gi_of eq1170, gi_of eq1185]; omega)⟩ (Nat.le_of_ble_eq_true rfl) (Nat.le_of_ble_eq_true rfl) dX12_takes_114
          · skip
            subst cn1184
            obtain ⟨zi1280, eq1281, bd1282⟩ := hc1180 rfl
            have hx1283 : zi682 = zi1280 := Value.int.inj (Eq.trans (Eq.symm eq1170) eq1281)
            subst hx1283
            have bd1284 : (0 : Int) ≤ zi682.toInt ∧ zi682.toInt ≤ 0 := b_meet bd689 bd1282 (by decide) (by decide)
            have rh1285 := rh1181 rfl
            simp only [ge_of eq1171 eq1172 eq1173, toi bc_31] at rh1285
            have rh1286 := rh1182 rfl
            simp only [gi_of eq1170] at rh1286
            refine lv_if_eq (tgt := 106) hx hb dX12_takes_97 (by decide) (fun c => absurd c (d_ne bc_1 bc_0 (by decide))) (fun _ => ?_)
            refine lv_aload_n hx hb dX12_takes_100 rfl (lv_at hl 0 rfl) ?_
            refine kq_v hw hS hA (va_runV (As := []) (rest := []) ⟨hx, hb, hml, hown, hT⟩ (cX12_goesOn_0 l G cy ev K ln Ls hW _ hp1167 ok1169 qa900 kd900) (cwV 0 hT (good_V tb_1639 tb_1636 tb_1638 tb_56 tb_122) rfl rfl rfl (by decide +kernel) ⟨Nat.le_of_ble_eq_true rfl, Nat.le_of_ble_eq_true rfl⟩) (pool_preV (ci := 12) hK hE hS hA hw hW kd900 (by decide) rfl) rfl rfl hl.1 rfl (lv_room (Nat.le_of_ble_eq_true rfl)) dX12_takes_101 ⟨Nat.le_of_ble_eq_true rfl, Nat.le_of_ble_eq_true rfl⟩) (fun hp1287 H locs hq1290 hw hS => ?_)
            obtain ⟨ok1288, F1289, ⟨zi1292, eq1293, bd1294⟩, rh1295, rh1296, rh1297⟩ := hq1290
            have hw : PW G cy K ln Ls A hp1287 H := hw
            obtain ⟨zi1299, eq1298, bd1300⟩ := rd_13013 ok1288 kd900
            simp only [gi_of eq1170, gi_of eq1172, gi_of eq1293, gi_of eq1298] at rh1295
            simp only [gi_of eq1170, gi_of eq1298] at rh1296
            simp only [gi_of eq1172, gi_of eq1293, gi_of eq1298] at rh1297
            refine lv_iconst (v := 1) hx hb dX12_takes_104 (by decide) ?_
            have eq1301 : hp1287 qa900 12 = .int zi684 := Eq.trans (Fr.at (cq := 13012) F1289 kd900 (cd_o (by decide)) (by decide)) eq1185
            rw [hQ]
            exact kz_i hx hb hr hlocks hS (nz_n bc_1 (by decide) (by decide)) hp1287 hw ⟨ok1288, (Fr.tr (Fr.put (cq := 87000) (Fr.put (cq := 86000) (Fr.put (cq := 87000) (Fr.tr (Fr.rf) F675 (by decide)) eh1133 kd1115 (cd_a (by decide)) (by decide)) eh1163 kd1157 (cd_a (by decide)) (by decide)) eh1168 kd1115 (cd_a (by decide)) (by decide)) F1289 (by decide)), (b_wid2 bc_1 (by decide) (by decide)), (fun _ => ⟨_, eq1293, b_wid2 bd1294 (by decide) (by decide)⟩), (by simp only [gi_of eq1, gi_of eq1293, gi_of eq1298, gi_of eq7]; omega), (by simp only [gi_of eq1, gi_of eq1298]; omega), (by simp only [gi_of eq1298, gi_of eq1301]; omega), (fun h => absurd h (by decide))⟩ (Nat.le_of_ble_eq_true rfl) (Nat.le_of_ble_eq_true rfl) dX12_takes_105
        · skip
          subst cn1152
          obtain ⟨zi1302, eq1303, bd1304⟩ := hc1148 rfl
          have hx1305 : zi682 = zi1302 := Value.int.inj (Eq.trans (Eq.symm eq1135) eq1303)
          subst hx1305
          have bd1306 : (0 : Int) ≤ zi682.toInt ∧ zi682.toInt ≤ 0 := b_meet bd689 bd1304 (by decide) (by decide)
          have rh1307 := rh1149 rfl
          simp only [ge_of eq1136 eq1139 eq1140, toi bc_32] at rh1307
          have rh1308 := rh1150 rfl
          simp only [gi_of eq1135] at rh1308
          refine lv_if_eq (tgt := 58) hx hb dX12_takes_49 (by decide) (fun c => absurd c (d_ne bc_1 bc_0 (by decide))) (fun _ => ?_)
          refine lv_aload_n hx hb dX12_takes_52 rfl (lv_at hl 0 rfl) ?_
          refine kq_v hw hS hA (va_runV (As := []) (rest := []) ⟨hx, hb, hml, hown, hT⟩ (cX12_goesOn_0 l G cy ev K ln Ls hW _ hp1132 ok1134 qa900 kd900) (cwV 0 hT (good_V tb_1639 tb_1636 tb_1638 tb_56 tb_122) rfl rfl rfl (by decide +kernel) ⟨Nat.le_of_ble_eq_true rfl, Nat.le_of_ble_eq_true rfl⟩) (pool_preV (ci := 12) hK hE hS hA hw hW kd900 (by decide) rfl) rfl rfl hl.1 rfl (lv_room (Nat.le_of_ble_eq_true rfl)) dX12_takes_53 ⟨Nat.le_of_ble_eq_true rfl, Nat.le_of_ble_eq_true rfl⟩) (fun hp1309 H locs hq1312 hw hS => ?_)
          obtain ⟨ok1310, F1311, ⟨zi1314, eq1315, bd1316⟩, rh1317, rh1318, rh1319⟩ := hq1312
          have hw : PW G cy K ln Ls A hp1309 H := hw
          obtain ⟨zi1321, eq1320, bd1322⟩ := rd_13013 ok1310 kd900
          simp only [gi_of eq1135, gi_of eq1139, gi_of eq1315, gi_of eq1320] at rh1317
          simp only [gi_of eq1135, gi_of eq1320] at rh1318
          simp only [gi_of eq1139, gi_of eq1315, gi_of eq1320] at rh1319
          refine lv_iconst (v := 1) hx hb dX12_takes_56 (by decide) ?_
          have eq1323 : hp1309 qa900 12 = .int zi684 := Eq.trans (Fr.at (cq := 13012) F1311 kd900 (cd_o (by decide)) (by decide)) eq1153
          rw [hQ]
          exact kz_i hx hb hr hlocks hS (nz_n bc_1 (by decide) (by decide)) hp1309 hw ⟨ok1310, (Fr.tr (Fr.put (cq := 87000) (Fr.tr (Fr.rf) F675 (by decide)) eh1133 kd1115 (cd_a (by decide)) (by decide)) F1311 (by decide)), (b_wid2 bc_1 (by decide) (by decide)), (fun _ => ⟨_, eq1315, b_wid2 bd1316 (by decide) (by decide)⟩), (by simp only [gi_of eq1, gi_of eq1315, gi_of eq1320, gi_of eq7]; omega), (by simp only [gi_of eq1, gi_of eq1320]; omega), (by simp only [gi_of eq1320, gi_of eq1323]; omega), (fun h => absurd h (by decide))⟩ (Nat.le_of_ble_eq_true rfl) (Nat.le_of_ble_eq_true rfl) dX12_takes_57
      refine lv_if_eq (tgt := 40) hx hb dX12_takes_29 (by decide) (fun cn1124 => ?_) (fun cn1124 => ?_)
      · skip
        have bd1324 : (0 : Int) ≤ zi1122.toInt ∧ zi1122.toInt ≤ 0 := r_eq_x cn1124 bd1123 bc_0 (by decide) (by decide)
        refine lv_lload_n hx hb dX12_takes_40 rfl (lv_at hl 1 rfl) ?_
        exact jn1130 wl673 _ _ ls (lv_sub hl [0, 2] rfl) hw hS
      · skip
        have tf1325 : (zi1122 : Int32).toInt ≠ (0 : Int32).toInt := fun e => cn1124 (Int32.toInt_inj.mp e)
        have := toi bc_0
        have bd1326 : (1 : Int) ≤ zi1122.toInt ∧ zi1122.toInt ≤ 1 := r_ne_lo cn1124 bd1123 (toi bc_0) (by decide) (by decide)
        refine lv_lload_n hx hb dX12_takes_32 rfl (lv_at hl 1 rfl) ?_
        refine lv_ldc2 (v := (-1)) hx hb hown (hT _ tb_1680) dX12_takes_33 ?_
        refine lv_lxor hx hb dX12_takes_36 (lv_topl (fun wl1327 _ => ?_))
        refine lv_goto (tgt := 41) hx hb dX12_takes_37 (by decide) ?_
        exact jn1130 wl1327 _ _ ls (lv_sub hl [0, 2] rfl) hw hS
  exact lp1111 _ hp0 wl901 zi8 zi2 zi5 _ _ ls (lp_in _) ok0 (Fr.rf) (b_wid2 bd9 (by decide) (by decide)) eq7 (b_wid2 bd3 (by decide) (by decide)) eq1 (b_wid2 bd6 (by decide) (by decide)) eq4 (by have := toi bc_1; omega) (by have := toi bc_1; omega) (by have := toi bc_1; omega) (lv_sub hl [2, 1, 0] rfl) hw hS

set_option maxRecDepth 100000 in
set_option maxHeartbeats 4000000 in
theorem cX12_condition_0 (l : Launch) (G : va_G) (cy : Nat → ClassId) (ev : Ew) (K ln : Nat → Nat) (Ls : List Nat) (hW : SW K ln Ls) (sz : Nat) (hp0 : Nat → Nat → Value) (ok0 : Ok K hp0) (qa900 : Nat) (kd900 : K qa900 = 13) (rp0 : (gi hp0 qa900 12) ≤ 7*(gi hp0 qa900 13)) : Met l yX12_condition (WS yX12_condition cX12_condition 3 (some .long)) { frames := 4, cells := 0, slots := 0, locals := 85 } (PB2 [.ref qa900] sz G cy ev (va_pl Ls (cellOf cy K ln hp0))) (QBl (S := (Nat → Nat → Value)) (fun (r : Int64) (u : (Nat → Nat → Value)) => Ok K u ∧ Fr [13011, 13012, 13013, 13014, 13015, 13016, 86000, 87000, 88000] K hp0 u ∧ (4*(gi u qa900 11) + (gi u qa900 13) ≥ 4*(gi hp0 qa900 11) + (gi hp0 qa900 13)) ∧ ((gi u qa900 13) ≥ (gi hp0 qa900 13)) ∧ ((gi u qa900 12) ≤ 7*(gi u qa900 13))) G (fun u => va_pl Ls (cellOf cy K ln u)) (va_A (va_pl Ls (cellOf cy K ln hp0)) sz)) 0 0 (va_A (va_pl Ls (cellOf cy K ln hp0)) sz) := by
  refine met_of2 (y := yX12_condition) (L := 3) (av := [.ref qa900]) (Qc := fun A => QBl (S := (Nat → Nat → Value)) (fun (r : Int64) (u : (Nat → Nat → Value)) => Ok K u ∧ Fr [13011, 13012, 13013, 13014, 13015, 13016, 86000, 87000, 88000] K hp0 u ∧ (4*(gi u qa900 11) + (gi u qa900 13) ≥ 4*(gi hp0 qa900 11) + (gi hp0 qa900 13)) ∧ ((gi u qa900 13) ≥ (gi hp0 qa900 13)) ∧ ((gi u qa900 12) ≤ 7*(gi u qa900 13))) G (fun u => va_pl Ls (cellOf cy K ln u)) A) (plainFor_of_name (by decide)) (Nat.le_of_ble_eq_true rfl) ?_
  intro p e s m below meth c hsz hx hb hr hml hown hT hlocks hin hK A hA hE hw hS ls hl
  have hw : PW G cy K ln Ls A hp0 s.heap := hw
  have hown : s.vm.findClass "LieClockModel" = some m.cls := hown
  have hl : lv_has ls 3 [(0, .ref qa900)] := hl
  obtain ⟨Q, hQ⟩ : ∃ Q : State → Prop, Q = MQ below (QBl (S := (Nat → Nat → Value)) (fun (r : Int64) (u : (Nat → Nat → Value)) => Ok K u ∧ Fr [13011, 13012, 13013, 13014, 13015, 13016, 86000, 87000, 88000] K hp0 u ∧ (4*(gi u qa900 11) + (gi u qa900 13) ≥ 4*(gi hp0 qa900 11) + (gi hp0 qa900 13)) ∧ ((gi u qa900 13) ≥ (gi hp0 qa900 13)) ∧ ((gi u qa900 12) ≤ 7*(gi u qa900 13))) G (fun u => va_pl Ls (cellOf cy K ln u)) A) ([.ref qa900] : List Value).toArray s 0 0 A := ⟨_, rfl⟩
  rw [← hQ]
  obtain ⟨zi2, eq1, bd3⟩ := rd_13013 ok0 kd900
  obtain ⟨zi5, eq4, bd6⟩ := rd_13012 ok0 kd900
  obtain ⟨zi8, eq7, bd9⟩ := rd_13011 ok0 kd900
  have rq0 := rp0
  simp only [gi_of eq1, gi_of eq4] at rq0
  refine lv_aload_n hx hb dX12_condition_0 rfl (lv_at hl 0 rfl) ?_
  refine p_get (ci := 12) (v := .int zi2) (C := RX12) (T := TX12) (N := 69) hx hb hT iw_X12 hown hK hw hW kd900 (by decide) rfl rfl 13 (by decide) eq1 (hT _ tb_1387) (fun _ h9 => h9) dX12_condition_1 ?_
  refine lv_if_le (tgt := 9) hx hb dX12_condition_4 (by decide) (fun cn10 => ?_) (fun cn10 => ?_)
  · skip
    have bd11 : (0 : Int) ≤ zi2.toInt ∧ zi2.toInt ≤ 0 := r_le_x cn10 bd3 bc_0 (by decide) (by decide)
    refine lv_aload_n hx hb dX12_condition_9 rfl (lv_at hl 0 rfl) ?_
    refine kq_v hw hS hA (va_runV (As := []) (rest := []) ⟨hx, hb, hml, hown, hT⟩ (cX12_opensCondition_0 l G cy ev K ln Ls hW _ hp0 ok0 qa900 kd900) (cwV 0 hT (good_V tb_1679 tb_1676 tb_1678 tb_66 tb_122) rfl rfl rfl (by decide +kernel) ⟨Nat.le_of_ble_eq_true rfl, Nat.le_of_ble_eq_true rfl⟩) (pool_preV (ci := 12) hK hE hS hA hw hW kd900 (by decide) rfl) rfl rfl hl.1 rfl (lv_room (Nat.le_of_ble_eq_true rfl)) dX12_condition_10 ⟨Nat.le_of_ble_eq_true rfl, Nat.le_of_ble_eq_true rfl⟩) (fun hp12 H locs hq15 hw hS => ?_)
    obtain ⟨ok13, F14⟩ := hq15
    have hw : PW G cy K ln Ls A hp12 H := hw
    refine lv_iconst (v := 1) hx hb dX12_condition_13 (by decide) ?_
    refine lv_istore_n (lv' := [(1, .int 1), (0, .ref qa900)]) hx hb dX12_condition_14 rfl hl (by decide) rfl (fun ls hl => ?_)
    have eq17 : hp12 qa900 11 = .int zi8 := Eq.trans (Fr.at (cq := 13011) F14 kd900 (cd_o (by decide)) (by decide)) eq7
    have eq18 : hp12 qa900 13 = .int zi2 := Eq.trans (Fr.at (cq := 13013) F14 kd900 (cd_o (by decide)) (by decide)) eq1
    have eq19 : hp12 qa900 12 = .int zi5 := Eq.trans (Fr.at (cq := 13012) F14 kd900 (cd_o (by decide)) (by decide)) eq4
    have lp923 : ∀ (n921 : Nat) (hp559 : Nat → Nat → Value) (zi558 : Int32) (zi564 : Int32) (zi567 : Int32) (zi570 : Int32) (H : Heap) (locs : List Loc) (ls : Array Slot), 1602 - 4*zi564.toInt - zi567.toInt < (n921 : Int) → Ok K hp559 → Fr [13011, 13012, 13013, 13014, 13015, 13016, 86000, 87000, 88000] K hp12 hp559 → ((0 : Int) ≤ zi558.toInt ∧ zi558.toInt ≤ 1) → ((0 : Int) ≤ zi564.toInt ∧ zi564.toInt ≤ 400) → hp559 qa900 11 = .int zi564 → ((0 : Int) ≤ zi567.toInt ∧ zi567.toInt ≤ 2) → hp559 qa900 13 = .int zi567 → ((0 : Int) ≤ zi570.toInt ∧ zi570.toInt ≤ 7) → hp559 qa900 12 = .int zi570 → (4*zi564.toInt + zi567.toInt ≥ 4*zi8.toInt + zi2.toInt) → (zi567.toInt ≥ zi2.toInt) → (zi570.toInt ≤ 6 + zi567.toInt) → (zi570.toInt ≤ 7*zi567.toInt + 7*(zi558 : Int32).toInt) → lv_has ls 3 [(0, .ref qa900), (1, .int zi558)] → PW G cy K ln Ls A hp559 H → va_S A s.heap H locs → W p l e ({ frames := 4, cells := 0, slots := 0, locals := 85 } : Room) s m ([.ref qa900] : List Value).toArray below meth c H locs 0 0 Q (F0 m 15 ls []) := by
      intro n921
      induction n921 with
      | zero =>
        intro hp559 zi558 zi564 zi567 zi570 H locs ls hm924 ok561 F560 bd575 bd576 eq563 bd577 eq566 bd578 eq569 rq571 rq572 rq573 rq574 hl hw hS
        exact absurd hm924 (by omega)
      | succ n921 ih922 =>
        intro hp559 zi558 zi564 zi567 zi570 H locs ls hm924 ok561 F560 bd575 bd576 eq563 bd577 eq566 bd578 eq569 rq571 rq572 rq573 rq574 hl hw hS
        refine lv_iload_n hx hb dX12_condition_15 rfl (lv_at hl 1 rfl) ?_
        refine lv_if_eq (tgt := 118) hx hb dX12_condition_16 (by decide) (fun cn925 => ?_) (fun cn925 => ?_)
        · skip
          have bd926 : (0 : Int) ≤ zi558.toInt ∧ zi558.toInt ≤ 0 := r_eq_x cn925 bd575 bc_0 (by decide) (by decide)
          refine lv_aload_n hx hb dX12_condition_118 rfl (lv_at hl 0 rfl) ?_
          obtain ⟨qa928, eq927, kd929⟩ := rd_13041 ok561 kd900
          refine p_get (ci := 12) (v := .ref qa928) (C := RX12) (T := TX12) (N := 69) hx hb hT iw_X12 hown hK hw hW kd900 (by decide) rfl rfl 41 (by decide) eq927 (hT _ tb_1415) (fun _ h9 => h9) dX12_condition_119 ?_
          refine lv_iconst (v := 0) hx hb dX12_condition_122 (by decide) ?_
          obtain ⟨wl931, eq930⟩ := rd_86000 ok561 kd929 ((0 : Int32).toNatClampNeg)
          refine p_lald (v := wl931) hx hb hK hw hW kd929 (by decide) rfl (hW.len kd929 (n := 8) rfl (by decide)) (vp_b bc_0 (by decide) (by decide)) eq930 dX12_condition_123 ?_
          rw [hQ]
          exact kz_l hx hb hr hlocks hS hp559 hw ⟨ok561, (Fr.tr (Fr.tr (Fr.rf) F14 (by decide)) F560 (by decide)), (by simp only [gi_of eq1, gi_of eq563, gi_of eq566, gi_of eq7]; omega), (by simp only [gi_of eq1, gi_of eq566]; omega), (by simp only [gi_of eq566, gi_of eq569]; omega)⟩ (Nat.le_of_ble_eq_true rfl) (Nat.le_of_ble_eq_true rfl) dX12_condition_124
        · skip
          have tf932 : (zi558 : Int32).toInt ≠ (0 : Int32).toInt := fun e => cn925 (Int32.toInt_inj.mp e)
          have := toi bc_0
          have bd933 : (1 : Int) ≤ zi558.toInt ∧ zi558.toInt ≤ 1 := r_ne_lo cn925 bd575 (toi bc_0) (by decide) (by decide)
          refine lv_aload_n hx hb dX12_condition_19 rfl (lv_at hl 0 rfl) ?_
          refine p_get (ci := 12) (v := .int zi567) (C := RX12) (T := TX12) (N := 69) hx hb hT iw_X12 hown hK hw hW kd900 (by decide) rfl rfl 13 (by decide) eq566 (hT _ tb_1387) (fun _ h9 => h9) dX12_condition_20 ?_
          refine lv_if_ne (tgt := 118) hx hb dX12_condition_23 (by decide) (fun cn934 => ?_) (fun cn934 => ?_)
          · skip
            have tf935 : (zi567 : Int32).toInt ≠ (0 : Int32).toInt := fun e => cn934 (Int32.toInt_inj.mp e)
            have := toi bc_0
            have bd936 : (1 : Int) ≤ zi567.toInt ∧ zi567.toInt ≤ 2 := r_ne_lo cn934 bd577 (toi bc_0) (by decide) (by decide)
            refine lv_aload_n hx hb dX12_condition_118 rfl (lv_at hl 0 rfl) ?_
            obtain ⟨qa938, eq937, kd939⟩ := rd_13041 ok561 kd900
            refine p_get (ci := 12) (v := .ref qa938) (C := RX12) (T := TX12) (N := 69) hx hb hT iw_X12 hown hK hw hW kd900 (by decide) rfl rfl 41 (by decide) eq937 (hT _ tb_1415) (fun _ h9 => h9) dX12_condition_119 ?_
            refine lv_iconst (v := 0) hx hb dX12_condition_122 (by decide) ?_
            obtain ⟨wl941, eq940⟩ := rd_86000 ok561 kd939 ((0 : Int32).toNatClampNeg)
            refine p_lald (v := wl941) hx hb hK hw hW kd939 (by decide) rfl (hW.len kd939 (n := 8) rfl (by decide)) (vp_b bc_0 (by decide) (by decide)) eq940 dX12_condition_123 ?_
            rw [hQ]
            exact kz_l hx hb hr hlocks hS hp559 hw ⟨ok561, (Fr.tr (Fr.tr (Fr.rf) F14 (by decide)) F560 (by decide)), (by simp only [gi_of eq1, gi_of eq563, gi_of eq566, gi_of eq7]; omega), (by simp only [gi_of eq1, gi_of eq566]; omega), (by simp only [gi_of eq566, gi_of eq569]; omega)⟩ (Nat.le_of_ble_eq_true rfl) (Nat.le_of_ble_eq_true rfl) dX12_condition_124
          · skip
            have bd942 : (0 : Int) ≤ zi567.toInt ∧ zi567.toInt ≤ 0 := r_eq_x cn934 bd577 bc_0 (by decide) (by decide)
            refine lv_aload_n hx hb dX12_condition_26 rfl (lv_at hl 0 rfl) ?_
            refine kq_v hw hS hA (va_runV (As := []) (rest := []) ⟨hx, hb, hml, hown, hT⟩ (cX12_nots_0 l G cy ev K ln Ls hW _ hp559 ok561 qa900 kd900) (cwV 0 hT (good_V tb_1684 tb_1681 tb_1683 tb_67 tb_122) rfl rfl rfl (by decide +kernel) ⟨Nat.le_of_ble_eq_true rfl, Nat.le_of_ble_eq_true rfl⟩) (pool_preV (ci := 12) hK hE hS hA hw hW kd900 (by decide) rfl) rfl rfl hl.1 rfl (lv_room (Nat.le_of_ble_eq_true rfl)) dX12_condition_27 ⟨Nat.le_of_ble_eq_true rfl, Nat.le_of_ble_eq_true rfl⟩) (fun hp943 H locs hq946 hw hS => ?_)
            obtain ⟨ok944, F945, rh948, rh949⟩ := hq946
            have hw : PW G cy K ln Ls A hp943 H := hw
            obtain ⟨zi951, eq950, bd952⟩ := rd_13013 ok944 kd900
            obtain ⟨zi954, eq953, bd955⟩ := rd_13011 ok944 kd900
            simp only [gi_of eq563, gi_of eq566, gi_of eq950, gi_of eq953] at rh948
            simp only [gi_of eq566, gi_of eq950] at rh949
            refine lv_aload_n hx hb dX12_condition_30 rfl (lv_at hl 0 rfl) ?_
            refine lv_bipush (v := 6) hx hb dX12_condition_31 (by decide) ?_
            obtain ⟨qa957, eq956, kd958⟩ := rd_13005 ok944 kd900
            obtain ⟨zi960, eq959⟩ := rd_62000 ok944 kd958 ((zi954 : Int32).toNatClampNeg)
            refine kq_i hw hS hA (va_runV (As := [.int 6]) (rest := []) ⟨hx, hb, hml, hown, hT⟩ (cX12_is_0 l G cy ev K ln Ls hW _ hp943 ok944 qa900 6 kd900) (cwV 1 hT (good_V tb_1623 tb_1620 tb_1622 tb_52 tb_122) rfl rfl rfl (by decide +kernel) ⟨Nat.le_of_ble_eq_true rfl, Nat.le_of_ble_eq_true rfl⟩) (pool_preV (ci := 12) hK hE hS hA hw hW kd900 (by decide) rfl) rfl rfl hl.1 rfl (lv_room (Nat.le_of_ble_eq_true rfl)) dX12_condition_33 ⟨Nat.le_of_ble_eq_true rfl, Nat.le_of_ble_eq_true rfl⟩) (fun zi965 hp961 H locs hq964 hw hS => ?_)
            obtain ⟨ok962, F963, bd966, hc967, rh968, rh969, rh970⟩ := hq964
            obtain rfl : hp943 = hp961 := (Fr.nil F963).symm
            have hw : PW G cy K ln Ls A hp943 H := hw
            have eq972 : hp943 qa900 12 = .int zi570 := Eq.trans (Fr.at (cq := 13012) F945 kd900 (cd_o (by decide)) (by decide)) eq569
            rcases b01 bd966 with cn971 | cn971
            · skip
              subst cn971
              have rh973 := rh970 rfl
              simp only [ge_of eq956 eq953 eq959, gi_of eq950, toi bc_6] at rh973
              refine lv_if_eq (tgt := 83) hx hb dX12_condition_36 (by decide) (fun _ => ?_) (fun c => absurd (d_eq bc_0 bc_0) c)
              refine lv_aload_n hx hb dX12_condition_83 rfl (lv_at hl 0 rfl) ?_
              refine lv_iconst (v := 0) hx hb dX12_condition_84 (by decide) ?_
              refine kq_i hw hS hA (va_runV (As := [.int 0]) (rest := []) ⟨hx, hb, hml, hown, hT⟩ (cX12_known_0 l G cy ev K ln Ls hW _ hp943 ok944 qa900 0 kd900) (cwV 1 hT (good_V tb_1671 tb_1668 tb_1670 tb_64 tb_122) rfl rfl rfl (by decide +kernel) ⟨Nat.le_of_ble_eq_true rfl, Nat.le_of_ble_eq_true rfl⟩) (pool_preV (ci := 12) hK hE hS hA hw hW kd900 (by decide) rfl) rfl rfl hl.1 rfl (lv_room (Nat.le_of_ble_eq_true rfl)) dX12_condition_85 ⟨Nat.le_of_ble_eq_true rfl, Nat.le_of_ble_eq_true rfl⟩) (fun zi978 hp974 H locs hq977 hw hS => ?_)
              obtain ⟨ok975, F976, bd979, rh980, rh981, rh982⟩ := hq977
              have hw : PW G cy K ln Ls A hp974 H := hw
              obtain ⟨zi984, eq983, bd985⟩ := rd_13013 ok975 kd900
              obtain ⟨zi987, eq986, bd988⟩ := rd_13011 ok975 kd900
              simp only [gi_of eq950, gi_of eq953, gi_of eq983, gi_of eq986] at rh980
              simp only [gi_of eq950, gi_of eq983] at rh981
              simp only [gi_of eq953, gi_of eq983, gi_of eq986] at rh982
              refine lv_istore_n (lv' := [(2, .int zi978), (0, .ref qa900), (1, .int zi558)]) hx hb dX12_condition_88 rfl hl (by decide) rfl (fun ls hl => ?_)
              refine lv_aload_n hx hb dX12_condition_89 rfl (lv_at hl 1 rfl) ?_
              refine p_get (ci := 12) (v := .int zi984) (C := RX12) (T := TX12) (N := 69) hx hb hT iw_X12 hown hK hw hW kd900 (by decide) rfl rfl 13 (by decide) eq983 (hT _ tb_1387) (fun _ h9 => h9) dX12_condition_90 ?_
              have eq990 : hp974 qa900 12 = .int zi570 := Eq.trans (Fr.at (cq := 13012) F976 kd900 (cd_o (by decide)) (by decide)) eq972
              refine lv_if_le (tgt := 98) hx hb dX12_condition_93 (by decide) (fun cn989 => ?_) (fun cn989 => ?_)
              · skip
                have bd991 : (0 : Int) ≤ zi984.toInt ∧ zi984.toInt ≤ 0 := r_le_x cn989 bd985 bc_0 (by decide) (by decide)
                refine lv_aload_n hx hb dX12_condition_98 rfl (lv_at hl 1 rfl) ?_
                refine lv_iload_n hx hb dX12_condition_99 rfl (lv_at hl 0 rfl) ?_
                have jn1001 : ∀ (wl1000 : Int64) (H : Heap) (locs : List Loc) (ls : Array Slot), lv_has ls 3 [(0, .ref qa900)] → PW G cy K ln Ls A hp974 H → va_S A s.heap H locs → W p l e ({ frames := 4, cells := 0, slots := 0, locals := 85 } : Room) s m ([.ref qa900] : List Value).toArray below meth c H locs 0 0 Q (F0 m 111 ls [.long wl1000, .ref qa900]) := by
                  intro wl1000 H locs ls hl hw hS
                  refine kq_i hw hS hA (va_runV (As := [.long wl1000]) (rest := []) ⟨hx, hb, hml, hown, hT⟩ (cX12_takes_0 l G cy ev K ln Ls hW _ hp974 ok975 qa900 wl1000 kd900 (by simp only [gi_of eq983, gi_of eq990]; omega)) (cwV 1 hT (good_V tb_1691 tb_1688 tb_1690 tb_68 tb_122) rfl rfl rfl (by decide +kernel) ⟨Nat.le_of_ble_eq_true rfl, Nat.le_of_ble_eq_true rfl⟩) (pool_preV (ci := 12) hK hE hS hA hw hW kd900 (by decide) rfl) rfl rfl hl.1 rfl (lv_room (Nat.le_of_ble_eq_true rfl)) dX12_condition_111 ⟨Nat.le_of_ble_eq_true rfl, Nat.le_of_ble_eq_true rfl⟩) (fun zi1006 hp1002 H locs hq1005 hw hS => ?_)
                  obtain ⟨ok1003, F1004, bd1007, hc1008, rh1009, rh1010, rh1011, rh1012⟩ := hq1005
                  have hw : PW G cy K ln Ls A hp1002 H := hw
                  obtain ⟨zi1014, eq1013, bd1015⟩ := rd_13013 ok1003 kd900
                  obtain ⟨zi1017, eq1016, bd1018⟩ := rd_13011 ok1003 kd900
                  simp only [gi_of eq1013, gi_of eq1016, gi_of eq983, gi_of eq986] at rh1009
                  simp only [gi_of eq1013, gi_of eq983] at rh1010
                  obtain ⟨zi1020, eq1019, bd1021⟩ := rd_13012 ok1003 kd900
                  simp only [gi_of eq1013, gi_of eq1019] at rh1011
                  have jn1031 : ∀ (zi1029 : Int32) (H : Heap) (locs : List Loc) (ls : Array Slot), ((0 : Int) ≤ zi1029.toInt ∧ zi1029.toInt ≤ 1) → lv_has ls 3 [(0, .ref qa900), (1, .int zi1029)] → PW G cy K ln Ls A hp1002 H → va_S A s.heap H locs → W p l e ({ frames := 4, cells := 0, slots := 0, locals := 85 } : Room) s m ([.ref qa900] : List Value).toArray below meth c H locs 0 0 Q (F0 m 115 ls []) := by
                    intro zi1029 H locs ls bd1030 hl hw hS
                    refine lv_goto (tgt := 15) hx hb dX12_condition_115 (by decide) ?_
                    exact ih922 hp1002 zi1029 zi1017 zi1014 zi1020 _ _ ls (by have := hm924; omega) ok1003 (Fr.tr (Fr.tr (Fr.tr (Fr.tr (Fr.rf) F560 (by decide)) F945 (by decide)) F976 (by decide)) F1004 (by decide)) (b_wid2 bd1030 (by decide) (by decide)) (b_wid2 bd1018 (by decide) (by decide)) eq1016 (b_wid2 bd1015 (by decide) (by decide)) eq1013 (b_wid2 bd1021 (by decide) (by decide)) eq1019 (by omega) (by omega) (by omega) (by omega) (lv_sub hl [0, 1] rfl) hw hS
                  rcases b01 bd1007 with cn1022 | cn1022
                  · skip
                    subst cn1022
                    have rh1032 := rh1012 rfl
                    simp only [gi_of eq1013, gi_of eq1019] at rh1032
                    refine lv_istore_n (lv' := [(1, .int 0), (0, .ref qa900)]) hx hb dX12_condition_114 rfl hl (by decide) rfl (fun ls hl => ?_)
                    exact jn1031 0 _ _ ls (b_wid2 bc_0 (by decide) (by decide)) (lv_sub hl [1, 0] rfl) hw hS
                  · skip
                    subst cn1022
                    obtain ⟨zi1033, eq1034, bd1035⟩ := hc1008 rfl
                    have hx1036 : zi1017 = zi1033 := Value.int.inj (Eq.trans (Eq.symm eq1016) eq1034)
                    subst hx1036
                    have bd1037 : (1 : Int) ≤ zi1017.toInt ∧ zi1017.toInt ≤ 400 := b_meet bd1018 bd1035 (by decide) (by decide)
                    refine lv_istore_n (lv' := [(1, .int 1), (0, .ref qa900)]) hx hb dX12_condition_114 rfl hl (by decide) rfl (fun ls hl => ?_)
                    exact jn1031 1 _ _ ls (b_wid2 bc_1 (by decide) (by decide)) (lv_sub hl [1, 0] rfl) hw hS
                refine lv_if_ge (tgt := 107) hx hb dX12_condition_100 (by decide) (fun cn992 => ?_) (fun cn992 => ?_)
                · skip
                  have bd1038 : (0 : Int) ≤ zi978.toInt ∧ zi978.toInt ≤ 7 := r_le_y cn992 bc_0 bd979 (by decide) (by decide)
                  refine lv_iload_n hx hb dX12_condition_107 rfl (lv_at hl 0 rfl) ?_
                  refine kq_l hw hS hA (va_runS (As := [.int zi978]) (rest := [.ref qa900]) ⟨hx, hb, hml, hown, hT⟩ (cX12_statesOf_0 l G cy ev K ln Ls hW _ hp974 ok975 zi978) (va_cwS 1 hT (good_S tb_1687 tb_1685 tb_1686 tb_122) rfl rfl rfl (by decide +kernel) ⟨Nat.le_of_ble_eq_true rfl, Nat.le_of_ble_eq_true rfl⟩) (PB2.preS hK hE hS hA hw) rfl rfl hl.1 rfl (lv_room (Nat.le_of_ble_eq_true rfl)) dX12_condition_108 ⟨Nat.le_of_ble_eq_true rfl, Nat.le_of_ble_eq_true rfl⟩) (fun wl1043 hp1039 H locs hq1042 hw hS => ?_)
                  obtain ⟨ok1040, F1041⟩ := hq1042
                  obtain rfl : hp974 = hp1039 := (Fr.nil F1041).symm
                  have hw : PW G cy K ln Ls A hp974 H := hw
                  exact jn1001 wl1043 _ _ ls (lv_sub hl [1] rfl) hw hS
                · skip
                  have bd1044 : (-1 : Int) ≤ zi978.toInt ∧ zi978.toInt ≤ -1 := r_lt_x (Int32.not_le.mp cn992) bd979 bc_0 (by decide) (by decide)
                  refine lv_lconst (v := 0) hx hb dX12_condition_103 (by decide) ?_
                  refine lv_goto (tgt := 111) hx hb dX12_condition_104 (by decide) ?_
                  exact jn1001 0 _ _ ls (lv_sub hl [1] rfl) hw hS
              · skip
                have bd1045 : (1 : Int) ≤ zi984.toInt ∧ zi984.toInt ≤ 2 := r_lt_y (Int32.not_le.mp cn989) bc_0 bd985 (by decide) (by decide)
                refine lv_lconst (v := 0) hx hb dX12_condition_96 (by decide) ?_
                rw [hQ]
                exact kz_l hx hb hr hlocks hS hp974 hw ⟨ok975, (Fr.tr (Fr.tr (Fr.tr (Fr.tr (Fr.rf) F14 (by decide)) F560 (by decide)) F945 (by decide)) F976 (by decide)), (by simp only [gi_of eq1, gi_of eq7, gi_of eq983, gi_of eq986]; omega), (by simp only [gi_of eq1, gi_of eq983]; omega), (by simp only [gi_of eq983, gi_of eq990]; omega)⟩ (Nat.le_of_ble_eq_true rfl) (Nat.le_of_ble_eq_true rfl) dX12_condition_97
            · skip
              subst cn971
              obtain ⟨zi1046, eq1047, bd1048⟩ := hc967 rfl
              have hx1049 : zi951 = zi1046 := Value.int.inj (Eq.trans (Eq.symm eq950) eq1047)
              subst hx1049
              have bd1050 : (0 : Int) ≤ zi951.toInt ∧ zi951.toInt ≤ 0 := b_meet bd952 bd1048 (by decide) (by decide)
              have rh1051 := rh968 rfl
              simp only [ge_of eq956 eq953 eq959, toi bc_6] at rh1051
              have rh1052 := rh969 rfl
              simp only [gi_of eq950] at rh1052
              refine lv_if_eq (tgt := 83) hx hb dX12_condition_36 (by decide) (fun c => absurd c (d_ne bc_1 bc_0 (by decide))) (fun _ => ?_)
              have bd1053 : (0 : Int) ≤ zi570.toInt ∧ zi570.toInt ≤ 6 := (by omega)
              refine lv_aload_n hx hb dX12_condition_39 rfl (lv_at hl 0 rfl) ?_
              refine p_get (ci := 12) (v := .int zi570) (C := RX12) (T := TX12) (N := 69) hx hb hT iw_X12 hown hK hw hW kd900 (by decide) rfl rfl 12 (by decide) eq972 (hT _ tb_1386) (fun _ h9 => h9) dX12_condition_40 ?_
              refine lv_bipush (v := 6) hx hb dX12_condition_43 (by decide) ?_
              refine lv_icmp_ne (tgt := 53) hx hb dX12_condition_45 (by decide) (fun cn1054 => ?_) (fun cn1054 => ?_)
              · skip
                have tf1055 : (zi570 : Int32).toInt ≠ (6 : Int32).toInt := fun e => cn1054 (Int32.toInt_inj.mp e)
                have := toi bc_6
                have bd1056 : (0 : Int) ≤ zi570.toInt ∧ zi570.toInt ≤ 5 := r_ne_hi cn1054 bd1053 (toi bc_6) (by decide) (by decide)
                refine lv_aload_n hx hb dX12_condition_53 rfl (lv_at hl 0 rfl) ?_
                refine p_get (ci := 12) (v := .int zi951) (C := RX12) (T := TX12) (N := 69) hx hb hT iw_X12 hown hK hw hW kd900 (by decide) rfl rfl 13 (by decide) eq950 (hT _ tb_1387) (fun _ h9 => h9) dX12_condition_54 ?_
                refine lv_if_le (tgt := 62) hx hb dX12_condition_57 (by decide) (fun _ => ?_) (fun c => absurd (d_le bd1050 bc_0 (by decide)) c)
                refine lv_aload_n hx hb dX12_condition_62 rfl (lv_at hl 0 rfl) ?_
                refine lv_dup hx hb dX12_condition_63 rfl ?_
                refine p_get (ci := 12) (v := .int zi570) (C := RX12) (T := TX12) (N := 69) hx hb hT iw_X12 hown hK hw hW kd900 (by decide) rfl rfl 12 (by decide) eq972 (hT _ tb_1386) (fun _ h9 => h9) dX12_condition_64 ?_
                refine lv_iconst (v := 1) hx hb dX12_condition_67 (by decide) ?_
                refine lv_iadd hx hb dX12_condition_68 (lv_topi (fun zi1057 ea1058 => ?_))
                have bd1059 : (1 : Int) ≤ zi1057.toInt ∧ zi1057.toInt ≤ 6 := b_iadd ea1058 bd1056 bc_1 (by decide) (by decide) (by decide) (by decide)
                have qe1060 : zi1057.toInt = (zi570 : Int32).toInt + (1 : Int32).toInt := e_iadd ea1058 bd1056 bc_1 (by decide) (by decide)
                have qe1061 : zi1057.toInt = zi570.toInt + 1 := by have ha : (1 : Int32).toInt = 1 := (by decide); rw [ha] at qe1060; exact qe1060
                refine p_put (ci := 12) (v := .int zi1057) (ty := .int) (C := RX12) (T := TX12) (N := 69) hx hb hT iw_X12 tyX12 tyX12_ok nmX12 hown hK hw hS hW kd900 (by decide) rfl rfl 12 (by decide) (hT _ tb_1386) (fun _ h9 => h9) rfl (by decide +kernel) rfl rfl dX12_condition_69 (fun hp1062 eh1063 H locs hw hS => ?_)
                have ok1064 := wr_13012 bd1059 (by decide) (by decide) ok944 kd900 eh1063
                refine lv_aload_n hx hb dX12_condition_72 rfl (lv_at hl 0 rfl) ?_
                have eq1065 : hp1062 qa900 13 = .int zi951 := Eq.trans (up_at eh1063 (Or.inr (by decide))) eq950
                have eq1066 : hp1062 qa900 11 = .int zi954 := Eq.trans (up_at eh1063 (Or.inr (by decide))) eq953
                refine kq_v hw hS hA (va_runV (As := []) (rest := []) ⟨hx, hb, hml, hown, hT⟩ (cX12_goesOn_0 l G cy ev K ln Ls hW _ hp1062 ok1064 qa900 kd900) (cwV 0 hT (good_V tb_1639 tb_1636 tb_1638 tb_56 tb_122) rfl rfl rfl (by decide +kernel) ⟨Nat.le_of_ble_eq_true rfl, Nat.le_of_ble_eq_true rfl⟩) (pool_preV (ci := 12) hK hE hS hA hw hW kd900 (by decide) rfl) rfl rfl hl.1 rfl (lv_room (Nat.le_of_ble_eq_true rfl)) dX12_condition_73 ⟨Nat.le_of_ble_eq_true rfl, Nat.le_of_ble_eq_true rfl⟩) (fun hp1067 H locs hq1070 hw hS => ?_)
                obtain ⟨ok1068, F1069, ⟨zi1072, eq1073, bd1074⟩, rh1075, rh1076, rh1077⟩ := hq1070
                have hw : PW G cy K ln Ls A hp1067 H := hw
                obtain ⟨zi1079, eq1078, bd1080⟩ := rd_13013 ok1068 kd900
                simp only [gi_of eq1065, gi_of eq1066, gi_of eq1073, gi_of eq1078] at rh1075
                simp only [gi_of eq1065, gi_of eq1078] at rh1076
                simp only [gi_of eq1066, gi_of eq1073, gi_of eq1078] at rh1077
                refine lv_aload_n hx hb dX12_condition_76 rfl (lv_at hl 0 rfl) ?_
                refine kq_v hw hS hA (va_runV (As := []) (rest := []) ⟨hx, hb, hml, hown, hT⟩ (cX12_opensCondition_0 l G cy ev K ln Ls hW _ hp1067 ok1068 qa900 kd900) (cwV 0 hT (good_V tb_1679 tb_1676 tb_1678 tb_66 tb_122) rfl rfl rfl (by decide +kernel) ⟨Nat.le_of_ble_eq_true rfl, Nat.le_of_ble_eq_true rfl⟩) (pool_preV (ci := 12) hK hE hS hA hw hW kd900 (by decide) rfl) rfl rfl hl.1 rfl (lv_room (Nat.le_of_ble_eq_true rfl)) dX12_condition_77 ⟨Nat.le_of_ble_eq_true rfl, Nat.le_of_ble_eq_true rfl⟩) (fun hp1081 H locs hq1084 hw hS => ?_)
                obtain ⟨ok1082, F1083⟩ := hq1084
                have hw : PW G cy K ln Ls A hp1081 H := hw
                refine lv_goto (tgt := 15) hx hb dX12_condition_80 (by decide) ?_
                have eq1086 : hp1081 qa900 11 = .int zi1072 := Eq.trans (Fr.at (cq := 13011) F1083 kd900 (cd_o (by decide)) (by decide)) eq1073
                have eq1087 : hp1081 qa900 13 = .int zi1079 := Eq.trans (Fr.at (cq := 13013) F1083 kd900 (cd_o (by decide)) (by decide)) eq1078
                have eq1088 : hp1081 qa900 12 = .int zi1057 := Eq.trans (Fr.at (cq := 13012) F1083 kd900 (cd_o (by decide)) (by decide)) (Eq.trans (Fr.at (cq := 13012) F1069 kd900 (cd_o (by decide)) (by decide)) (hp_self eh1063))
                exact ih922 hp1081 zi558 zi1072 zi1079 zi1057 _ _ ls (by have := hm924; omega) ok1082 (Fr.tr (Fr.tr (Fr.put (cq := 13012) (Fr.tr (Fr.tr (Fr.rf) F560 (by decide)) F945 (by decide)) eh1063 kd900 (cd_o (by decide)) (by decide)) F1069 (by decide)) F1083 (by decide)) (b_wid2 bd933 (by decide) (by decide)) (b_wid2 bd1074 (by decide) (by decide)) eq1086 (b_wid2 bd1080 (by decide) (by decide)) eq1087 (b_wid2 bd1059 (by decide) (by decide)) eq1088 (by omega) (by omega) (by omega) (by omega) (lv_sub hl [0, 1] rfl) hw hS
              · skip
                have bd1089 : (6 : Int) ≤ zi570.toInt ∧ zi570.toInt ≤ 6 := r_eq_x cn1054 bd1053 bc_6 (by decide) (by decide)
                refine lv_aload_n hx hb dX12_condition_48 rfl (lv_at hl 0 rfl) ?_
                refine lv_iconst (v := 2) hx hb dX12_condition_49 (by decide) ?_
                refine kq_v hw hS hA (va_runV (As := [.int 2]) (rest := []) ⟨hx, hb, hml, hown, hT⟩ (cX12_fail_0 l G cy ev K ln Ls hW _ hp943 ok944 qa900 2 kd900 (b_wid2 bc_2 (by decide) (by decide))) (cwV 1 hT (good_V tb_1635 tb_1632 tb_1634 tb_55 tb_122) rfl rfl rfl (by decide +kernel) ⟨Nat.le_of_ble_eq_true rfl, Nat.le_of_ble_eq_true rfl⟩) (pool_preV (ci := 12) hK hE hS hA hw hW kd900 (by decide) rfl) rfl rfl hl.1 rfl (lv_room (Nat.le_of_ble_eq_true rfl)) dX12_condition_50 ⟨Nat.le_of_ble_eq_true rfl, Nat.le_of_ble_eq_true rfl⟩) (fun hp1090 H locs hq1093 hw hS => ?_)
                obtain ⟨ok1091, F1092, ⟨zi1095, eq1096, bd1097⟩, rh1098⟩ := hq1093
                have hw : PW G cy K ln Ls A hp1090 H := hw
                simp only [gi_of eq1096, gi_of eq950] at rh1098
                refine lv_aload_n hx hb dX12_condition_53 rfl (lv_at hl 0 rfl) ?_
                refine p_get (ci := 12) (v := .int zi1095) (C := RX12) (T := TX12) (N := 69) hx hb hT iw_X12 hown hK hw hW kd900 (by decide) rfl rfl 13 (by decide) eq1096 (hT _ tb_1387) (fun _ h9 => h9) dX12_condition_54 ?_
                refine lv_if_le (tgt := 62) hx hb dX12_condition_57 (by decide) (fun c => absurd c (d_nle bd1097 bc_0 (by decide))) (fun _ => ?_)
                refine lv_lconst (v := 0) hx hb dX12_condition_60 (by decide) ?_
                have eq1099 : hp1090 qa900 11 = .int zi954 := Eq.trans (Fr.at (cq := 13011) F1092 kd900 (cd_o (by decide)) (by decide)) eq953
                have eq1100 : hp1090 qa900 12 = .int zi570 := Eq.trans (Fr.at (cq := 13012) F1092 kd900 (cd_o (by decide)) (by decide)) eq972
                rw [hQ]
                exact kz_l hx hb hr hlocks hS hp1090 hw ⟨ok1091, (Fr.tr (Fr.tr (Fr.tr (Fr.tr (Fr.rf) F14 (by decide)) F560 (by decide)) F945 (by decide)) F1092 (by decide)), (by simp only [gi_of eq1, gi_of eq1096, gi_of eq1099, gi_of eq7]; omega), (by simp only [gi_of eq1, gi_of eq1096]; omega), (by simp only [gi_of eq1096, gi_of eq1100]; omega)⟩ (Nat.le_of_ble_eq_true rfl) (Nat.le_of_ble_eq_true rfl) dX12_condition_61
    exact lp923 _ hp12 1 zi8 zi2 zi5 _ _ ls (lp_in _) ok13 (Fr.rf) (b_wid2 bc_1 (by decide) (by decide)) (b_wid2 bd9 (by decide) (by decide)) eq17 (b_wid2 bd11 (by decide) (by decide)) eq18 (b_wid2 bd6 (by decide) (by decide)) eq19 (by have := toi bc_1; omega) (by have := toi bc_1; omega) (by have := toi bc_1; omega) (by have := toi bc_1; omega) (lv_sub hl [1, 0] rfl) hw hS
  · skip
    have bd1101 : (1 : Int) ≤ zi2.toInt ∧ zi2.toInt ≤ 2 := r_lt_y (Int32.not_le.mp cn10) bc_0 bd3 (by decide) (by decide)
    refine lv_lconst (v := 0) hx hb dX12_condition_7 (by decide) ?_
    rw [hQ]
    exact kz_l hx hb hr hlocks hS hp0 hw ⟨ok0, (Fr.rf), (by simp only [gi_of eq1, gi_of eq7]; omega), (by simp only [gi_of eq1]; omega), (by simp only [gi_of eq1, gi_of eq4]; omega)⟩ (Nat.le_of_ble_eq_true rfl) (Nat.le_of_ble_eq_true rfl) dX12_condition_8

set_option maxRecDepth 100000 in
set_option maxHeartbeats 4000000 in
theorem cX12_tellWord_0 (l : Launch) (G : va_G) (cy : Nat → ClassId) (ev : Ew) (K ln : Nat → Nat) (Ls : List Nat) (hW : SW K ln Ls) (sz : Nat) (hp0 : Nat → Nat → Value) (ok0 : Ok K hp0) (qa900 : Nat) (kd900 : K qa900 = 13) (rp0 : (gi hp0 qa900 12) ≤ 7*(gi hp0 qa900 13)) (rp1 : (ge hp0 qa900 28 19) ≤ 15) : Met l yX12_tellWord (WS yX12_tellWord cX12_tellWord 2 none) { frames := 5, cells := 0, slots := 0, locals := 107 } (PB2 [.ref qa900] sz G cy ev (va_pl Ls (cellOf cy K ln hp0))) (QBv (S := (Nat → Nat → Value)) (fun u : (Nat → Nat → Value) => Ok K u ∧ Fr [13011, 13012, 13013, 13014, 13015, 13016, 74000, 75000, 76000, 77000, 86000, 87000, 88000] K hp0 u ∧ (4*(gi u qa900 11) + (gi u qa900 13) ≥ 4*(gi hp0 qa900 11) + (gi hp0 qa900 13)) ∧ ((gi u qa900 13) ≥ (gi hp0 qa900 13)) ∧ ((gi u qa900 12) ≤ 7*(gi u qa900 13))) G (fun u => va_pl Ls (cellOf cy K ln u)) (va_A (va_pl Ls (cellOf cy K ln hp0)) sz)) 0 0 (va_A (va_pl Ls (cellOf cy K ln hp0)) sz) := by
  refine met_of2 (y := yX12_tellWord) (L := 2) (av := [.ref qa900]) (Qc := fun A => QBv (S := (Nat → Nat → Value)) (fun u : (Nat → Nat → Value) => Ok K u ∧ Fr [13011, 13012, 13013, 13014, 13015, 13016, 74000, 75000, 76000, 77000, 86000, 87000, 88000] K hp0 u ∧ (4*(gi u qa900 11) + (gi u qa900 13) ≥ 4*(gi hp0 qa900 11) + (gi hp0 qa900 13)) ∧ ((gi u qa900 13) ≥ (gi hp0 qa900 13)) ∧ ((gi u qa900 12) ≤ 7*(gi u qa900 13))) G (fun u => va_pl Ls (cellOf cy K ln u)) A) (plainFor_of_name (by decide)) (Nat.le_of_ble_eq_true rfl) ?_
  intro p e s m below meth c hsz hx hb hr hml hown hT hlocks hin hK A hA hE hw hS ls hl
  have hw : PW G cy K ln Ls A hp0 s.heap := hw
  have hown : s.vm.findClass "LieClockModel" = some m.cls := hown
  have hl : lv_has ls 2 [(0, .ref qa900)] := hl
  obtain ⟨Q, hQ⟩ : ∃ Q : State → Prop, Q = MQ below (QBv (S := (Nat → Nat → Value)) (fun u : (Nat → Nat → Value) => Ok K u ∧ Fr [13011, 13012, 13013, 13014, 13015, 13016, 74000, 75000, 76000, 77000, 86000, 87000, 88000] K hp0 u ∧ (4*(gi u qa900 11) + (gi u qa900 13) ≥ 4*(gi hp0 qa900 11) + (gi hp0 qa900 13)) ∧ ((gi u qa900 13) ≥ (gi hp0 qa900 13)) ∧ ((gi u qa900 12) ≤ 7*(gi u qa900 13))) G (fun u => va_pl Ls (cellOf cy K ln u)) A) ([.ref qa900] : List Value).toArray s 0 0 A := ⟨_, rfl⟩
  rw [← hQ]
  obtain ⟨zi2, eq1, bd3⟩ := rd_13013 ok0 kd900
  obtain ⟨zi5, eq4, bd6⟩ := rd_13012 ok0 kd900
  obtain ⟨zi8, eq7, bd9⟩ := rd_13011 ok0 kd900
  obtain ⟨qa11, eq10, kd12⟩ := rd_13028 ok0 kd900
  obtain ⟨zi14, eq13, bd15⟩ := rd_13019 ok0 kd900
  obtain ⟨zi17, eq16, bd18⟩ := rd_74000 ok0 kd12 ((zi14 : Int32).toNatClampNeg)
  have rq0 := rp0
  simp only [gi_of eq1, gi_of eq4] at rq0
  have rq1 := rp1
  simp only [ge_of eq10 eq13 eq16] at rq1
  have bd19 : (0 : Int) ≤ zi17.toInt ∧ zi17.toInt ≤ 15 := (by omega)
  refine lv_bipush (v := 16) hx hb dX12_tellWord_0 (by decide) ?_
  refine lv_aload_n hx hb dX12_tellWord_2 rfl (lv_at hl 0 rfl) ?_
  refine p_get (ci := 12) (v := .int zi14) (C := RX12) (T := TX12) (N := 69) hx hb hT iw_X12 hown hK hw hW kd900 (by decide) rfl rfl 19 (by decide) eq13 (hT _ tb_1393) (fun _ h9 => h9) dX12_tellWord_3 ?_
  refine lv_imul hx hb dX12_tellWord_6 (lv_topi (fun zi20 ea21 => ?_))
  have bd22 : (0 : Int) ≤ zi20.toInt ∧ zi20.toInt ≤ 16 := b_imul ea21 bc_16 bd15 (by decide) (by decide) (by decide) (by decide) (by decide)
  have qe23 : zi20.toInt = (16 : Int32).toInt * (zi14 : Int32).toInt := e_imul (b := 16) (d := 1) ea21 (b_wid2 bc_16 (by decide) (by decide)) (b_wid2 bd15 (by decide) (by decide)) (by decide)
  have qe24 : zi20.toInt = 16 * zi14.toInt := by have ha : (16 : Int32).toInt = 16 := (by decide); rw [ha] at qe23; exact qe23
  refine lv_aload_n hx hb dX12_tellWord_7 rfl (lv_at hl 0 rfl) ?_
  refine p_get (ci := 12) (v := .ref qa11) (C := RX12) (T := TX12) (N := 69) hx hb hT iw_X12 hown hK hw hW kd900 (by decide) rfl rfl 28 (by decide) eq10 (hT _ tb_1402) (fun _ h9 => h9) dX12_tellWord_8 ?_
  refine lv_aload_n hx hb dX12_tellWord_11 rfl (lv_at hl 0 rfl) ?_
  refine p_get (ci := 12) (v := .int zi14) (C := RX12) (T := TX12) (N := 69) hx hb hT iw_X12 hown hK hw hW kd900 (by decide) rfl rfl 19 (by decide) eq13 (hT _ tb_1393) (fun _ h9 => h9) dX12_tellWord_12 ?_
  refine p_iald (v := zi17) hx hb hK hw hW kd12 (by decide) rfl (hW.len kd12 (n := 2) rfl (by decide)) (vp_b bd15 (by decide) (by decide)) eq16 dX12_tellWord_15 ?_
  refine lv_iadd hx hb dX12_tellWord_16 (lv_topi (fun zi25 ea26 => ?_))
  have bd27 : (0 : Int) ≤ zi25.toInt ∧ zi25.toInt ≤ 31 := b_iadd ea26 bd22 bd19 (by decide) (by decide) (by decide) (by decide)
  have qe28 : zi25.toInt = zi20.toInt + zi17.toInt := e_iadd ea26 bd22 bd19 (by decide) (by decide)
  refine lv_istore_n (lv' := [(1, .int zi25), (0, .ref qa900)]) hx hb dX12_tellWord_17 rfl hl (by decide) rfl (fun ls hl => ?_)
  refine lv_aload_n hx hb dX12_tellWord_18 rfl (lv_at hl 1 rfl) ?_
  obtain ⟨qa30, eq29, kd31⟩ := rd_13029 ok0 kd900
  refine p_get (ci := 12) (v := .ref qa30) (C := RX12) (T := TX12) (N := 69) hx hb hT iw_X12 hown hK hw hW kd900 (by decide) rfl rfl 29 (by decide) eq29 (hT _ tb_1403) (fun _ h9 => h9) dX12_tellWord_19 ?_
  refine lv_iload_n hx hb dX12_tellWord_22 rfl (lv_at hl 0 rfl) ?_
  refine lv_aload_n hx hb dX12_tellWord_23 rfl (lv_at hl 1 rfl) ?_
  refine lv_iconst (v := 1) hx hb dX12_tellWord_24 (by decide) ?_
  refine kq_i hw hS hA (va_runV (As := [.int 1]) (rest := [.int zi25, .ref qa30]) ⟨hx, hb, hml, hown, hT⟩ (cX12_known_0 l G cy ev K ln Ls hW _ hp0 ok0 qa900 1 kd900) (cwV 1 hT (good_V tb_1671 tb_1668 tb_1670 tb_64 tb_122) rfl rfl rfl (by decide +kernel) ⟨Nat.le_of_ble_eq_true rfl, Nat.le_of_ble_eq_true rfl⟩) (pool_preV (ci := 12) hK hE hS hA hw hW kd900 (by decide) rfl) rfl rfl hl.1 rfl (lv_room (Nat.le_of_ble_eq_true rfl)) dX12_tellWord_25 ⟨Nat.le_of_ble_eq_true rfl, Nat.le_of_ble_eq_true rfl⟩) (fun zi36 hp32 H locs hq35 hw hS => ?_)
  obtain ⟨ok33, F34, bd37, rh38, rh39, rh40⟩ := hq35
  have hw : PW G cy K ln Ls A hp32 H := hw
  obtain ⟨zi42, eq41, bd43⟩ := rd_13013 ok33 kd900
  obtain ⟨zi45, eq44, bd46⟩ := rd_13011 ok33 kd900
  simp only [gi_of eq1, gi_of eq41, gi_of eq44, gi_of eq7] at rh38
  simp only [gi_of eq1, gi_of eq41] at rh39
  simp only [gi_of eq41, gi_of eq44, gi_of eq7] at rh40
  refine p_iast (x := zi36) hx hb hK hw hS hW kd31 (by decide) rfl (hW.len kd31 (n := 32) rfl (by decide)) (vp_b bd27 (by decide) (by decide)) dX12_tellWord_28 (fun hp47 eh48 H locs hw hS => ?_)
  have ok49 := wr_75000 bd37 (by decide) (by decide) ok33 kd31 eh48
  refine lv_aload_n hx hb dX12_tellWord_29 rfl (lv_at hl 1 rfl) ?_
  obtain ⟨qa51, eq50, kd52⟩ := rd_13030 ok49 kd900
  refine p_get (ci := 12) (v := .ref qa51) (C := RX12) (T := TX12) (N := 69) hx hb hT iw_X12 hown hK hw hW kd900 (by decide) rfl rfl 30 (by decide) eq50 (hT _ tb_1404) (fun _ h9 => h9) dX12_tellWord_30 ?_
  refine lv_iload_n hx hb dX12_tellWord_33 rfl (lv_at hl 0 rfl) ?_
  refine lv_aload_n hx hb dX12_tellWord_34 rfl (lv_at hl 1 rfl) ?_
  have eq53 : hp47 qa900 13 = .int zi42 := Eq.trans (up_at eh48 (Or.inl (kd_ne kd900 kd31 (by decide)))) eq41
  refine p_get (ci := 12) (v := .int zi42) (C := RX12) (T := TX12) (N := 69) hx hb hT iw_X12 hown hK hw hW kd900 (by decide) rfl rfl 13 (by decide) eq53 (hT _ tb_1387) (fun _ h9 => h9) dX12_tellWord_35 ?_
  have eq55 : hp47 qa900 11 = .int zi45 := Eq.trans (up_at eh48 (Or.inl (kd_ne kd900 kd31 (by decide)))) eq44
  have eq56 : hp47 qa900 12 = .int zi5 := Eq.trans (up_at eh48 (Or.inl (kd_ne kd900 kd31 (by decide)))) (Eq.trans (Fr.at (cq := 13012) F34 kd900 (cd_o (by decide)) (by decide)) eq4)
  have eq57 : hp47 qa900 28 = .ref qa11 := Eq.trans (up_at eh48 (Or.inl (kd_ne kd900 kd31 (by decide)))) (Eq.trans (Fr.at (cq := 13028) F34 kd900 (cd_o (by decide)) (by decide)) eq10)
  have eq58 : hp47 qa900 19 = .int zi14 := Eq.trans (up_at eh48 (Or.inl (kd_ne kd900 kd31 (by decide)))) (Eq.trans (Fr.at (cq := 13019) F34 kd900 (cd_o (by decide)) (by decide)) eq13)
  have eq59 : hp47 qa11 (zi14 : Int32).toNatClampNeg = .int zi17 := Eq.trans (up_at eh48 (Or.inl (kd_ne kd12 kd31 (by decide)))) (Eq.trans (Fr.at (cq := 74000) F34 kd12 (cd_a (by decide)) (by decide)) eq16)
  have jn89 : ∀ (zi87 : Int32) (H : Heap) (locs : List Loc) (ls : Array Slot), ((0 : Int) ≤ zi87.toInt ∧ zi87.toInt ≤ 1) → lv_has ls 2 [(0, .ref qa900), (1, .int zi25)] → PW G cy K ln Ls A hp47 H → va_S A s.heap H locs → W p l e ({ frames := 5, cells := 0, slots := 0, locals := 107 } : Room) s m ([.ref qa900] : List Value).toArray below meth c H locs 0 0 Q (F0 m 55 ls [.int zi87, .int zi25, .ref qa51]) := by
    intro zi87 H locs ls bd88 hl hw hS
    refine p_zast (x := zi87) hx hb hK hw hS hW kd52 (by decide) rfl (hW.len kd52 (n := 32) rfl (by decide)) (vp_b bd27 (by decide) (by decide)) dX12_tellWord_55 (fun hp90 eh91 H locs hw hS => ?_)
    have ok92 := wr_76000 (nar_z zi87) (by decide) (by decide) ok49 kd52 eh91
    refine lv_aload_n hx hb dX12_tellWord_56 rfl (lv_at hl 0 rfl) ?_
    have eq93 : hp90 qa900 30 = .ref qa51 := Eq.trans (up_at eh91 (Or.inl (kd_ne kd900 kd52 (by decide)))) eq50
    refine p_get (ci := 12) (v := .ref qa51) (C := RX12) (T := TX12) (N := 69) hx hb hT iw_X12 hown hK hw hW kd900 (by decide) rfl rfl 30 (by decide) eq93 (hT _ tb_1404) (fun _ h9 => h9) dX12_tellWord_57 ?_
    refine lv_iload_n hx hb dX12_tellWord_60 rfl (lv_at hl 1 rfl) ?_
    refine p_zald (v := (vp_nar .boolean zi87)) hx hb hK hw hW kd52 (by decide) rfl (hW.len kd52 (n := 32) rfl (by decide)) (vp_b bd27 (by decide) (by decide)) (hp_self eh91) dX12_tellWord_61 ?_
    have eq95 : hp90 qa900 11 = .int zi45 := Eq.trans (up_at eh91 (Or.inl (kd_ne kd900 kd52 (by decide)))) eq55
    have eq96 : hp90 qa900 13 = .int zi42 := Eq.trans (up_at eh91 (Or.inl (kd_ne kd900 kd52 (by decide)))) eq53
    have eq97 : hp90 qa900 12 = .int zi5 := Eq.trans (up_at eh91 (Or.inl (kd_ne kd900 kd52 (by decide)))) eq56
    have eq98 : hp90 qa900 28 = .ref qa11 := Eq.trans (up_at eh91 (Or.inl (kd_ne kd900 kd52 (by decide)))) eq57
    have eq99 : hp90 qa900 19 = .int zi14 := Eq.trans (up_at eh91 (Or.inl (kd_ne kd900 kd52 (by decide)))) eq58
    have eq100 : hp90 qa11 (zi14 : Int32).toNatClampNeg = .int zi17 := Eq.trans (up_at eh91 (Or.inl (kd_ne kd12 kd52 (by decide)))) eq59
    have eq129 : hp118 qa900 28 = .ref qa11 := Eq.trans (Fr.at (cq := 13028) F119 kd900 (cd_o (by decide)) (by decide)) eq98
    have eq130 : hp118 qa900 19 = .int zi14 := Eq.trans (Fr.at (cq := 13019) F119 kd900 (cd_o (by decide)) (by decide)) eq99
    have jn131 : ∀ (hp118 : Nat → Nat → Value) (zi122 : Int32) (zi124 : Int32) (H : Heap) (locs : List Loc) (ls : Array Slot), Ok K hp118 → Fr [13011, 13013, 13014] K hp90 hp118 → ((0 : Int) ≤ zi122.toInt ∧ zi122.toInt ≤ 400) → hp118 qa900 11 = .int zi122 → ((0 : Int) ≤ zi124.toInt ∧ zi124.toInt ≤ 2) → hp118 qa900 13 = .int zi124 → (4*zi122.toInt + zi124.toInt ≥ 4*zi45.toInt + zi42.toInt) → (zi124.toInt ≥ zi42.toInt) → lv_has ls 2 [(0, .ref qa900), (1, .int zi25)] → PW G cy K ln Ls A hp118 H → va_S A s.heap H locs → W p l e ({ frames := 5, cells := 0, slots := 0, locals := 107 } : Room) s m ([.ref qa900] : List Value).toArray below meth c H locs 0 0 Q (F0 m 69 ls []) := by
      intro hp118 zi122 zi124 H locs ls ok120 F119 bd127 eq121 bd128 eq123 rq125 rq126 hl hw hS
      refine lv_aload_n hx hb dX12_tellWord_69 rfl (lv_at hl 0 rfl) ?_
      refine lv_iconst (v := 5) hx hb dX12_tellWord_70 (by decide) ?_
      refine kq_v hw hS hA (va_runV (As := [.int 5]) (rest := []) ⟨hx, hb, hml, hown, hT⟩ (cX12_must_0 l G cy ev K ln Ls hW _ hp118 ok120 qa900 5 kd900) (cwV 1 hT (good_V tb_1651 tb_1648 tb_1650 tb_59 tb_122) rfl rfl rfl (by decide +kernel) ⟨Nat.le_of_ble_eq_true rfl, Nat.le_of_ble_eq_true rfl⟩) (pool_preV (ci := 12) hK hE hS hA hw hW kd900 (by decide) rfl) rfl rfl hl.1 rfl (lv_room (Nat.le_of_ble_eq_true rfl)) dX12_tellWord_71 ⟨Nat.le_of_ble_eq_true rfl, Nat.le_of_ble_eq_true rfl⟩) (fun hp132 H locs hq135 hw hS => ?_)
      obtain ⟨ok133, F134, rh137, rh138, rh139⟩ := hq135
      have hw : PW G cy K ln Ls A hp132 H := hw
      obtain ⟨zi141, eq140, bd142⟩ := rd_13013 ok133 kd900
      obtain ⟨zi144, eq143, bd145⟩ := rd_13011 ok133 kd900
      simp only [gi_of eq121, gi_of eq123, gi_of eq140, gi_of eq143] at rh137
      simp only [gi_of eq123, gi_of eq140] at rh138
      simp only [gi_of eq121, gi_of eq140, gi_of eq143] at rh139
      refine lv_aload_n hx hb dX12_tellWord_74 rfl (lv_at hl 0 rfl) ?_
      obtain ⟨qa147, eq146, kd148⟩ := rd_13031 ok133 kd900
      refine p_get (ci := 12) (v := .ref qa147) (C := RX12) (T := TX12) (N := 69) hx hb hT iw_X12 hown hK hw hW kd900 (by decide) rfl rfl 31 (by decide) eq146 (hT _ tb_1405) (fun _ h9 => h9) dX12_tellWord_75 ?_
      refine lv_iload_n hx hb dX12_tellWord_78 rfl (lv_at hl 1 rfl) ?_
      refine lv_aload_n hx hb dX12_tellWord_79 rfl (lv_at hl 0 rfl) ?_
      have eq149 : hp132 qa900 12 = .int zi5 := Eq.trans (Fr.at (cq := 13012) F134 kd900 (cd_o (by decide)) (by decide)) (Eq.trans (Fr.at (cq := 13012) F119 kd900 (cd_o (by decide)) (by decide)) eq97)
      refine kq_l hw hS hA (va_runV (As := []) (rest := [.int zi25, .ref qa147]) ⟨hx, hb, hml, hown, hT⟩ (cX12_condition_0 l G cy ev K ln Ls hW _ hp132 ok133 qa900 kd900 (by simp only [gi_of eq140, gi_of eq149]; omega)) (cwV 0 hT (good_V tb_1675 tb_1672 tb_1674 tb_65 tb_122) rfl rfl rfl (by decide +kernel) ⟨Nat.le_of_ble_eq_true rfl, Nat.le_of_ble_eq_true rfl⟩) (pool_preV (ci := 12) hK hE hS hA hw hW kd900 (by decide) rfl) rfl rfl hl.1 rfl (lv_room (Nat.le_of_ble_eq_true rfl)) dX12_tellWord_80 ⟨Nat.le_of_ble_eq_true rfl, Nat.le_of_ble_eq_true rfl⟩) (fun wl154 hp150 H locs hq153 hw hS => ?_)
      obtain ⟨ok151, F152, rh155, rh156, rh157⟩ := hq153
      have hw : PW G cy K ln Ls A hp150 H := hw
      obtain ⟨zi159, eq158, bd160⟩ := rd_13013 ok151 kd900
      obtain ⟨zi162, eq161, bd163⟩ := rd_13011 ok151 kd900
      simp only [gi_of eq140, gi_of eq143, gi_of eq158, gi_of eq161] at rh155
      simp only [gi_of eq140, gi_of eq158] at rh156
      obtain ⟨zi165, eq164, bd166⟩ := rd_13012 ok151 kd900
      simp only [gi_of eq158, gi_of eq164] at rh157
      refine p_last (x := wl154) hx hb hK hw hS hW kd148 (by decide) rfl (hW.len kd148 (n := 32) rfl (by decide)) (vp_b bd27 (by decide) (by decide)) dX12_tellWord_83 (fun hp167 eh168 H locs hw hS => ?_)
      have ok169 := wr_77000 ok151 kd148 eh168
      refine lv_aload_n hx hb dX12_tellWord_84 rfl (lv_at hl 0 rfl) ?_
      refine lv_iconst (v := 4) hx hb dX12_tellWord_85 (by decide) ?_
      have eq170 : hp167 qa900 13 = .int zi159 := Eq.trans (up_at eh168 (Or.inl (kd_ne kd900 kd148 (by decide)))) eq158
      have eq171 : hp167 qa900 11 = .int zi162 := Eq.trans (up_at eh168 (Or.inl (kd_ne kd900 kd148 (by decide)))) eq161
      refine kq_v hw hS hA (va_runV (As := [.int 4]) (rest := []) ⟨hx, hb, hml, hown, hT⟩ (cX12_must_0 l G cy ev K ln Ls hW _ hp167 ok169 qa900 4 kd900) (cwV 1 hT (good_V tb_1651 tb_1648 tb_1650 tb_59 tb_122) rfl rfl rfl (by decide +kernel) ⟨Nat.le_of_ble_eq_true rfl, Nat.le_of_ble_eq_true rfl⟩) (pool_preV (ci := 12) hK hE hS hA hw hW kd900 (by decide) rfl) rfl rfl hl.1 rfl (lv_room (Nat.le_of_ble_eq_true rfl)) dX12_tellWord_86 ⟨Nat.le_of_ble_eq_true rfl, Nat.le_of_ble_eq_true rfl⟩) (fun hp172 H locs hq175 hw hS => ?_)
      obtain ⟨ok173, F174, rh177, rh178, rh179⟩ := hq175
      have hw : PW G cy K ln Ls A hp172 H := hw
      obtain ⟨zi181, eq180, bd182⟩ := rd_13013 ok173 kd900
      obtain ⟨zi184, eq183, bd185⟩ := rd_13011 ok173 kd900
      simp only [gi_of eq170, gi_of eq171, gi_of eq180, gi_of eq183] at rh177
      simp only [gi_of eq170, gi_of eq180] at rh178
      simp only [gi_of eq171, gi_of eq180, gi_of eq183] at rh179
      refine lv_aload_n hx hb dX12_tellWord_89 rfl (lv_at hl 0 rfl) ?_
      refine p_get (ci := 12) (v := .int zi181) (C := RX12) (T := TX12) (N := 69) hx hb hT iw_X12 hown hK hw hW kd900 (by decide) rfl rfl 13 (by decide) eq180 (hT _ tb_1387) (fun _ h9 => h9) dX12_tellWord_90 ?_
      have eq187 : hp172 qa900 12 = .int zi165 := Eq.trans (Fr.at (cq := 13012) F174 kd900 (cd_o (by decide)) (by decide)) (Eq.trans (up_at eh168 (Or.inl (kd_ne kd900 kd148 (by decide)))) eq164)
      have eq188 : hp172 qa900 28 = .ref qa11 := Eq.trans (Fr.at (cq := 13028) F174 kd900 (cd_o (by decide)) (by decide)) (Eq.trans (up_at eh168 (Or.inl (kd_ne kd900 kd148 (by decide)))) (Eq.trans (Fr.at (cq := 13028) F152 kd900 (cd_o (by decide)) (by decide)) (Eq.trans (Fr.at (cq := 13028) F134 kd900 (cd_o (by decide)) (by decide)) eq129)))
      have eq189 : hp172 qa900 19 = .int zi14 := Eq.trans (Fr.at (cq := 13019) F174 kd900 (cd_o (by decide)) (by decide)) (Eq.trans (up_at eh168 (Or.inl (kd_ne kd900 kd148 (by decide)))) (Eq.trans (Fr.at (cq := 13019) F152 kd900 (cd_o (by decide)) (by decide)) (Eq.trans (Fr.at (cq := 13019) F134 kd900 (cd_o (by decide)) (by decide)) eq130)))
      have eq190 : hp172 qa11 (zi14 : Int32).toNatClampNeg = .int zi17 := Eq.trans (Fr.at (cq := 74000) F174 kd12 (cd_a (by decide)) (by decide)) (Eq.trans (up_at eh168 (Or.inl (kd_ne kd12 kd148 (by decide)))) (Eq.trans (Fr.at (cq := 74000) F152 kd12 (cd_a (by decide)) (by decide)) (Eq.trans (Fr.at (cq := 74000) F134 kd12 (cd_a (by decide)) (by decide)) (Eq.trans (Fr.at (cq := 74000) F119 kd12 (cd_a (by decide)) (by decide)) eq100))))
      refine lv_if_ne (tgt := 109) hx hb dX12_tellWord_93 (by decide) (fun cn186 => ?_) (fun cn186 => ?_)
      · skip
        have tf191 : (zi181 : Int32).toInt ≠ (0 : Int32).toInt := fun e => cn186 (Int32.toInt_inj.mp e)
        have := toi bc_0
        have bd192 : (1 : Int) ≤ zi181.toInt ∧ zi181.toInt ≤ 2 := r_ne_lo cn186 bd182 (toi bc_0) (by decide) (by decide)
        rw [hQ]
        exact kz_v hx hb hr hlocks hS hp172 hw ⟨ok173, (Fr.tr (Fr.put (cq := 77000) (Fr.tr (Fr.tr (Fr.tr (Fr.put (cq := 76000) (Fr.put (cq := 75000) (Fr.tr (Fr.rf) F34 (by decide)) eh48 kd31 (cd_a (by decide)) (by decide)) eh91 kd52 (cd_a (by decide)) (by decide)) F119 (by decide)) F134 (by decide)) F152 (by decide)) eh168 kd148 (cd_a (by decide)) (by decide)) F174 (by decide)), (by simp only [gi_of eq1, gi_of eq180, gi_of eq183, gi_of eq7]; omega), (by simp only [gi_of eq1, gi_of eq180]; omega), (by simp only [gi_of eq180, gi_of eq187]; omega)⟩ (Nat.le_of_ble_eq_true rfl) (Nat.le_of_ble_eq_true rfl) dX12_tellWord_109
      · skip
        have bd193 : (0 : Int) ≤ zi181.toInt ∧ zi181.toInt ≤ 0 := r_eq_x cn186 bd182 bc_0 (by decide) (by decide)
        refine lv_aload_n hx hb dX12_tellWord_96 rfl (lv_at hl 0 rfl) ?_
        refine p_get (ci := 12) (v := .ref qa11) (C := RX12) (T := TX12) (N := 69) hx hb hT iw_X12 hown hK hw hW kd900 (by decide) rfl rfl 28 (by decide) eq188 (hT _ tb_1402) (fun _ h9 => h9) dX12_tellWord_97 ?_
        refine lv_aload_n hx hb dX12_tellWord_100 rfl (lv_at hl 0 rfl) ?_
        refine p_get (ci := 12) (v := .int zi14) (C := RX12) (T := TX12) (N := 69) hx hb hT iw_X12 hown hK hw hW kd900 (by decide) rfl rfl 19 (by decide) eq189 (hT _ tb_1393) (fun _ h9 => h9) dX12_tellWord_101 ?_
        refine lv_dup2_11 hx hb dX12_tellWord_104 rfl rfl ?_
        refine p_iald (v := zi17) hx hb hK hw hW kd12 (by decide) rfl (hW.len kd12 (n := 2) rfl (by decide)) (vp_b bd15 (by decide) (by decide)) eq190 dX12_tellWord_105 ?_
        refine lv_iconst (v := 1) hx hb dX12_tellWord_106 (by decide) ?_
        refine lv_iadd hx hb dX12_tellWord_107 (lv_topi (fun zi194 ea195 => ?_))
        have bd196 : (1 : Int) ≤ zi194.toInt ∧ zi194.toInt ≤ 16 := b_iadd ea195 bd19 bc_1 (by decide) (by decide) (by decide) (by decide)
        have qe197 : zi194.toInt = (zi17 : Int32).toInt + (1 : Int32).toInt := e_iadd ea195 bd19 bc_1 (by decide) (by decide)
        have qe198 : zi194.toInt = zi17.toInt + 1 := by have ha : (1 : Int32).toInt = 1 := (by decide); rw [ha] at qe197; exact qe197
        refine p_iast (x := zi194) hx hb hK hw hS hW kd12 (by decide) rfl (hW.len kd12 (n := 2) rfl (by decide)) (vp_b bd15 (by decide) (by decide)) dX12_tellWord_108 (fun hp199 eh200 H locs hw hS => ?_)
        have ok201 := wr_74000 bd196 (by decide) (by decide) ok173 kd12 eh200
        have eq202 : hp199 qa900 13 = .int zi181 := Eq.trans (up_at eh200 (Or.inl (kd_ne kd900 kd12 (by decide)))) eq180
        have eq203 : hp199 qa900 11 = .int zi184 := Eq.trans (up_at eh200 (Or.inl (kd_ne kd900 kd12 (by decide)))) eq183
        have eq204 : hp199 qa900 12 = .int zi165 := Eq.trans (up_at eh200 (Or.inl (kd_ne kd900 kd12 (by decide)))) eq187
        rw [hQ]
        exact kz_v hx hb hr hlocks hS hp199 hw ⟨ok201, (Fr.put (cq := 74000) (Fr.tr (Fr.put (cq := 77000) (Fr.tr (Fr.tr (Fr.tr (Fr.put (cq := 76000) (Fr.put (cq := 75000) (Fr.tr (Fr.rf) F34 (by decide)) eh48 kd31 (cd_a (by decide)) (by decide)) eh91 kd52 (cd_a (by decide)) (by decide)) F119 (by decide)) F134 (by decide)) F152 (by decide)) eh168 kd148 (cd_a (by decide)) (by decide)) F174 (by decide)) eh200 kd12 (cd_a (by decide)) (by decide)), (by simp only [gi_of eq1, gi_of eq202, gi_of eq203, gi_of eq7]; omega), (by simp only [gi_of eq1, gi_of eq202]; omega), (by simp only [gi_of eq202, gi_of eq204]; omega)⟩ (Nat.le_of_ble_eq_true rfl) (Nat.le_of_ble_eq_true rfl) dX12_tellWord_109
    refine lv_if_eq (tgt := 69) hx hb dX12_tellWord_62 (by decide) (fun cn94 => ?_) (fun cn94 => ?_)
    · skip
      have bd205 : (0 : Int) ≤ (vp_nar .boolean zi87).toInt ∧ (vp_nar .boolean zi87).toInt ≤ 0 := r_eq_x cn94 (nar_z zi87) bc_0 (by decide) (by decide)
      exact jn131 hp90 zi45 zi42 _ _ ls ok92 (Fr.rf) (b_wid2 bd46 (by decide) (by decide)) eq95 (b_wid2 bd43 (by decide) (by decide)) eq96 (by omega) (by omega) (lv_sub hl [0, 1] rfl) hw hS
    · skip
      have tf206 : ((vp_nar .boolean zi87) : Int32).toInt ≠ (0 : Int32).toInt := fun e => cn94 (Int32.toInt_inj.mp e)
      have := toi bc_0
      have bd207 : (1 : Int) ≤ (vp_nar .boolean zi87).toInt ∧ (vp_nar .boolean zi87).toInt ≤ 1 := r_ne_lo cn94 (nar_z zi87) (toi bc_0) (by decide) (by decide)
      refine lv_aload_n hx hb dX12_tellWord_65 rfl (lv_at hl 0 rfl) ?_
      refine kq_v hw hS hA (va_runV (As := []) (rest := []) ⟨hx, hb, hml, hown, hT⟩ (cX12_goesOn_0 l G cy ev K ln Ls hW _ hp90 ok92 qa900 kd900) (cwV 0 hT (good_V tb_1639 tb_1636 tb_1638 tb_56 tb_122) rfl rfl rfl (by decide +kernel) ⟨Nat.le_of_ble_eq_true rfl, Nat.le_of_ble_eq_true rfl⟩) (pool_preV (ci := 12) hK hE hS hA hw hW kd900 (by decide) rfl) rfl rfl hl.1 rfl (lv_room (Nat.le_of_ble_eq_true rfl)) dX12_tellWord_66 ⟨Nat.le_of_ble_eq_true rfl, Nat.le_of_ble_eq_true rfl⟩) (fun hp208 H locs hq211 hw hS => ?_)
      obtain ⟨ok209, F210, ⟨zi213, eq214, bd215⟩, rh216, rh217, rh218⟩ := hq211
      have hw : PW G cy K ln Ls A hp208 H := hw
      obtain ⟨zi220, eq219, bd221⟩ := rd_13013 ok209 kd900
      simp only [gi_of eq214, gi_of eq219, gi_of eq95, gi_of eq96] at rh216
      simp only [gi_of eq219, gi_of eq96] at rh217
      simp only [gi_of eq214, gi_of eq219, gi_of eq95] at rh218
      have eq222 : hp208 qa900 12 = .int zi5 := Eq.trans (Fr.at (cq := 13012) F210 kd900 (cd_o (by decide)) (by decide)) eq97
      have eq223 : hp208 qa900 28 = .ref qa11 := Eq.trans (Fr.at (cq := 13028) F210 kd900 (cd_o (by decide)) (by decide)) eq98
      have eq224 : hp208 qa900 19 = .int zi14 := Eq.trans (Fr.at (cq := 13019) F210 kd900 (cd_o (by decide)) (by decide)) eq99
      have eq225 : hp208 qa11 (zi14 : Int32).toNatClampNeg = .int zi17 := Eq.trans (Fr.at (cq := 74000) F210 kd12 (cd_a (by decide)) (by decide)) eq100
      exact jn131 hp208 zi213 zi220 _ _ ls ok209 (Fr.tr (Fr.rf) F210 (by decide)) (b_wid2 bd215 (by decide) (by decide)) eq214 (b_wid2 bd221 (by decide) (by decide)) eq219 (by omega) (by omega) (lv_sub hl [0, 1] rfl) hw hS
  refine lv_if_ne (tgt := 54) hx hb dX12_tellWord_38 (by decide) (fun cn54 => ?_) (fun cn54 => ?_)
  · skip
    have tf226 : (zi42 : Int32).toInt ≠ (0 : Int32).toInt := fun e => cn54 (Int32.toInt_inj.mp e)
    have := toi bc_0
    have bd227 : (1 : Int) ≤ zi42.toInt ∧ zi42.toInt ≤ 2 := r_ne_lo cn54 bd43 (toi bc_0) (by decide) (by decide)
    refine lv_iconst (v := 0) hx hb dX12_tellWord_54 (by decide) ?_
    exact jn89 0 _ _ ls (b_wid2 bc_0 (by decide) (by decide)) (lv_sub hl [1, 0] rfl) hw hS
  · skip
    have bd228 : (0 : Int) ≤ zi42.toInt ∧ zi42.toInt ≤ 0 := r_eq_x cn54 bd43 bc_0 (by decide) (by decide)
    refine lv_aload_n hx hb dX12_tellWord_41 rfl (lv_at hl 1 rfl) ?_
    refine lv_bipush (v := 26) hx hb dX12_tellWord_42 (by decide) ?_
    obtain ⟨qa230, eq229, kd231⟩ := rd_13005 ok49 kd900
    obtain ⟨zi233, eq232⟩ := rd_62000 ok49 kd231 ((zi45 : Int32).toNatClampNeg)
    refine kq_i hw hS hA (va_runV (As := [.int 26]) (rest := [.int zi25, .ref qa51]) ⟨hx, hb, hml, hown, hT⟩ (cX12_is_0 l G cy ev K ln Ls hW _ hp47 ok49 qa900 26 kd900) (cwV 1 hT (good_V tb_1623 tb_1620 tb_1622 tb_52 tb_122) rfl rfl rfl (by decide +kernel) ⟨Nat.le_of_ble_eq_true rfl, Nat.le_of_ble_eq_true rfl⟩) (pool_preV (ci := 12) hK hE hS hA hw hW kd900 (by decide) rfl) rfl rfl hl.1 rfl (lv_room (Nat.le_of_ble_eq_true rfl)) dX12_tellWord_44 ⟨Nat.le_of_ble_eq_true rfl, Nat.le_of_ble_eq_true rfl⟩) (fun zi238 hp234 H locs hq237 hw hS => ?_)
    obtain ⟨ok235, F236, bd239, hc240, rh241, rh242, rh243⟩ := hq237
    obtain rfl : hp47 = hp234 := (Fr.nil F236).symm
    have hw : PW G cy K ln Ls A hp47 H := hw
    rcases b01 bd239 with cn244 | cn244
    · skip
      subst cn244
      have rh245 := rh243 rfl
      simp only [ge_of eq229 eq55 eq232, gi_of eq53, toi bc_26] at rh245
      refine lv_if_eq (tgt := 54) hx hb dX12_tellWord_47 (by decide) (fun _ => ?_) (fun c => absurd (d_eq bc_0 bc_0) c)
      refine lv_iconst (v := 0) hx hb dX12_tellWord_54 (by decide) ?_
      exact jn89 0 _ _ ls (b_wid2 bc_0 (by decide) (by decide)) (lv_sub hl [1, 0] rfl) hw hS
    · skip
      subst cn244
      obtain ⟨zi246, eq247, bd248⟩ := hc240 rfl
      have hx249 : zi42 = zi246 := Value.int.inj (Eq.trans (Eq.symm eq53) eq247)
      subst hx249
      have bd250 : (0 : Int) ≤ zi42.toInt ∧ zi42.toInt ≤ 0 := b_meet bd228 bd248 (by decide) (by decide)
      have rh251 := rh241 rfl
      simp only [ge_of eq229 eq55 eq232, toi bc_26] at rh251
      have rh252 := rh242 rfl
      simp only [gi_of eq53] at rh252
      refine lv_if_eq (tgt := 54) hx hb dX12_tellWord_47 (by decide) (fun c => absurd c (d_ne bc_1 bc_0 (by decide))) (fun _ => ?_)
      refine lv_iconst (v := 1) hx hb dX12_tellWord_50 (by decide) ?_
      refine lv_goto (tgt := 55) hx hb dX12_tellWord_51 (by decide) ?_
      exact jn89 1 _ _ ls (b_wid2 bc_1 (by decide) (by decide)) (lv_sub hl [1, 0] rfl) hw hS

set_option maxRecDepth 100000 in
set_option maxHeartbeats 4000000 in
theorem cX12_roomFor_2 (l : Launch) (G : va_G) (cy : Nat → ClassId) (ev : Ew) (K ln : Nat → Nat) (Ls : List Nat) (hW : SW K ln Ls) (sz : Nat) (hp0 : Nat → Nat → Value) (ok0 : Ok K hp0) (qa900 : Nat) (zi901 : Int32) (zi902 : Int32) (kd900 : K qa900 = 13) (bd901 : ((0 : Int) ≤ zi901.toInt ∧ zi901.toInt ≤ 8)) (bd902 : ((8 : Int) ≤ zi902.toInt ∧ zi902.toInt ≤ 8)) : Met l yX12_roomFor (WS yX12_roomFor cX12_roomFor 3 none) { frames := 2, cells := 0, slots := 0, locals := 41 } (PB2 [.ref qa900, .int zi901, .int zi902] sz G cy ev (va_pl Ls (cellOf cy K ln hp0))) (QBv (S := (Nat → Nat → Value)) (fun u : (Nat → Nat → Value) => Ok K u ∧ Fr [13011, 13013, 13014] K hp0 u ∧ (4*(gi u qa900 11) + (gi u qa900 13) ≥ 4*(gi hp0 qa900 11) + (gi hp0 qa900 13)) ∧ ((gi u qa900 13) ≥ (gi hp0 qa900 13)) ∧ (4*(gi u qa900 11) + (gi u qa900 13) ≥ 4*(gi hp0 qa900 11) + 1) ∧ ((zi901 : Int32).toInt ≤ (zi902 : Int32).toInt - 1 + (gi u qa900 13))) G (fun u => va_pl Ls (cellOf cy K ln u)) (va_A (va_pl Ls (cellOf cy K ln hp0)) sz)) 0 0 (va_A (va_pl Ls (cellOf cy K ln hp0)) sz) := by
  refine met_of2 (y := yX12_roomFor) (L := 3) (av := [.ref qa900, .int zi901, .int zi902]) (Qc := fun A => QBv (S := (Nat → Nat → Value)) (fun u : (Nat → Nat → Value) => Ok K u ∧ Fr [13011, 13013, 13014] K hp0 u ∧ (4*(gi u qa900 11) + (gi u qa900 13) ≥ 4*(gi hp0 qa900 11) + (gi hp0 qa900 13)) ∧ ((gi u qa900 13) ≥ (gi hp0 qa900 13)) ∧ (4*(gi u qa900 11) + (gi u qa900 13) ≥ 4*(gi hp0 qa900 11) + 1) ∧ ((zi901 : Int32).toInt ≤ (zi902 : Int32).toInt - 1 + (gi u qa900 13))) G (fun u => va_pl Ls (cellOf cy K ln u)) A) (plainFor_of_name (by decide)) (Nat.le_of_ble_eq_true rfl) ?_
  intro p e s m below meth c hsz hx hb hr hml hown hT hlocks hin hK A hA hE hw hS ls hl
  have hw : PW G cy K ln Ls A hp0 s.heap := hw
  have hown : s.vm.findClass "LieClockModel" = some m.cls := hown
  have hl : lv_has ls 3 [(0, .ref qa900), (1, .int zi901), (2, .int zi902)] := hl
  obtain ⟨Q, hQ⟩ : ∃ Q : State → Prop, Q = MQ below (QBv (S := (Nat → Nat → Value)) (fun u : (Nat → Nat → Value) => Ok K u ∧ Fr [13011, 13013, 13014] K hp0 u ∧ (4*(gi u qa900 11) + (gi u qa900 13) ≥ 4*(gi hp0 qa900 11) + (gi hp0 qa900 13)) ∧ ((gi u qa900 13) ≥ (gi hp0 qa900 13)) ∧ (4*(gi u qa900 11) + (gi u qa900 13) ≥ 4*(gi hp0 qa900 11) + 1) ∧ ((zi901 : Int32).toInt ≤ (zi902 : Int32).toInt - 1 + (gi u qa900 13))) G (fun u => va_pl Ls (cellOf cy K ln u)) A) ([.ref qa900, .int zi901, .int zi902] : List Value).toArray s 0 0 A := ⟨_, rfl⟩
  rw [← hQ]
  obtain ⟨zi2, eq1, bd3⟩ := rd_13013 ok0 kd900
  obtain ⟨zi5, eq4, bd6⟩ := rd_13011 ok0 kd900
  refine lv_iload_n hx hb dX12_roomFor_0 rfl (lv_at hl 1 rfl) ?_
  refine lv_iload_n hx hb dX12_roomFor_1 rfl (lv_at hl 2 rfl) ?_
  have jn30 : ∀ (hp21 : Nat → Nat → Value) (zi25 : Int32) (H : Heap) (locs : List Loc) (ls : Array Slot), Ok K hp21 → Fr [13013, 13014] K hp0 hp21 → ((0 : Int) ≤ zi25.toInt ∧ zi25.toInt ≤ 2) → hp21 qa900 13 = .int zi25 → (4*zi5.toInt + zi25.toInt ≥ 4*zi5.toInt + zi2.toInt) → (zi25.toInt ≥ zi2.toInt) → (zi901.toInt ≤ zi902.toInt - 1 + zi25.toInt) → lv_has ls 3 [(0, .ref qa900)] → PW G cy K ln Ls A hp21 H → va_S A s.heap H locs → W p l e ({ frames := 2, cells := 0, slots := 0, locals := 41 } : Room) s m ([.ref qa900, .int zi901, .int zi902] : List Value).toArray below meth c H locs 0 0 Q (F0 m 10 ls []) := by
    intro hp21 zi25 H locs ls ok23 F22 bd29 eq24 rq26 rq27 rq28 hl hw hS
    refine lv_aload_n hx hb dX12_roomFor_10 rfl (lv_at hl 0 rfl) ?_
    refine p_get (ci := 12) (v := .int zi25) (C := RX12) (T := TX12) (N := 69) hx hb hT iw_X12 hown hK hw hW kd900 (by decide) rfl rfl 13 (by decide) eq24 (hT _ tb_1387) (fun _ h9 => h9) dX12_roomFor_11 ?_
    have eq32 : hp21 qa900 11 = .int zi5 := Eq.trans (Fr.at (cq := 13011) F22 kd900 (cd_o (by decide)) (by decide)) eq4
    refine lv_if_ne (tgt := 21) hx hb dX12_roomFor_14 (by decide) (fun cn31 => ?_) (fun cn31 => ?_)
    · skip
      have tf33 : (zi25 : Int32).toInt ≠ (0 : Int32).toInt := fun e => cn31 (Int32.toInt_inj.mp e)
      have := toi bc_0
      have bd34 : (1 : Int) ≤ zi25.toInt ∧ zi25.toInt ≤ 2 := r_ne_lo cn31 bd29 (toi bc_0) (by decide) (by decide)
      rw [hQ]
      exact kz_v hx hb hr hlocks hS hp21 hw ⟨ok23, (Fr.tr (Fr.rf) F22 (by decide)), (by simp only [gi_of eq1, gi_of eq24, gi_of eq32, gi_of eq4]; omega), (by simp only [gi_of eq1, gi_of eq24]; omega), (by simp only [gi_of eq24, gi_of eq32, gi_of eq4]; omega), (by simp only [gi_of eq24]; omega)⟩ (Nat.le_of_ble_eq_true rfl) (Nat.le_of_ble_eq_true rfl) dX12_roomFor_21
    · skip
      have bd35 : (0 : Int) ≤ zi25.toInt ∧ zi25.toInt ≤ 0 := r_eq_x cn31 bd29 bc_0 (by decide) (by decide)
      refine lv_aload_n hx hb dX12_roomFor_17 rfl (lv_at hl 0 rfl) ?_
      refine kq_v hw hS hA (va_runV (As := []) (rest := []) ⟨hx, hb, hml, hown, hT⟩ (cX12_goesOn_0 l G cy ev K ln Ls hW _ hp21 ok23 qa900 kd900) (cwV 0 hT (good_V tb_1639 tb_1636 tb_1638 tb_56 tb_122) rfl rfl rfl (by decide +kernel) ⟨Nat.le_of_ble_eq_true rfl, Nat.le_of_ble_eq_true rfl⟩) (pool_preV (ci := 12) hK hE hS hA hw hW kd900 (by decide) rfl) rfl rfl hl.1 rfl (lv_room (Nat.le_of_ble_eq_true rfl)) dX12_roomFor_18 ⟨Nat.le_of_ble_eq_true rfl, Nat.le_of_ble_eq_true rfl⟩) (fun hp36 H locs hq39 hw hS => ?_)
      obtain ⟨ok37, F38, ⟨zi41, eq42, bd43⟩, rh44, rh45, rh46⟩ := hq39
      have hw : PW G cy K ln Ls A hp36 H := hw
      obtain ⟨zi48, eq47, bd49⟩ := rd_13013 ok37 kd900
      simp only [gi_of eq24, gi_of eq32, gi_of eq42, gi_of eq47] at rh44
      simp only [gi_of eq24, gi_of eq47] at rh45
      simp only [gi_of eq32, gi_of eq42, gi_of eq47] at rh46
      rw [hQ]
      exact kz_v hx hb hr hlocks hS hp36 hw ⟨ok37, (Fr.tr (Fr.tr (Fr.rf) F22 (by decide)) F38 (by decide)), (by simp only [gi_of eq1, gi_of eq4, gi_of eq42, gi_of eq47]; omega), (by simp only [gi_of eq1, gi_of eq47]; omega), (by simp only [gi_of eq4, gi_of eq42, gi_of eq47]; omega), (by simp only [gi_of eq47]; omega)⟩ (Nat.le_of_ble_eq_true rfl) (Nat.le_of_ble_eq_true rfl) dX12_roomFor_21
  refine lv_icmp_ne (tgt := 10) hx hb dX12_roomFor_2 (by decide) (fun cn7 => ?_) (fun cn7 => ?_)
  · skip
    have tf50 : (zi901 : Int32).toInt ≠ (zi902 : Int32).toInt := fun e => cn7 (Int32.toInt_inj.mp e)
    have bd51 : (0 : Int) ≤ zi901.toInt ∧ zi901.toInt ≤ 7 := r_ne_hi cn7 bd901 (toi bd902) (by decide) (by decide)
    exact jn30 hp0 zi2 _ _ ls ok0 (Fr.rf) (b_wid2 bd3 (by decide) (by decide)) eq1 (by omega) (by omega) (by omega) (lv_sub hl [0] rfl) hw hS
  · skip
    have tf52 : zi901.toInt = zi902.toInt := congrArg Int32.toInt cn7
    have bd53 : (8 : Int) ≤ zi901.toInt ∧ zi901.toInt ≤ 8 := r_eq_x cn7 bd901 bd902 (by decide) (by decide)
    refine lv_aload_n hx hb dX12_roomFor_5 rfl (lv_at hl 0 rfl) ?_
    refine lv_iconst (v := 2) hx hb dX12_roomFor_6 (by decide) ?_
    refine kq_v hw hS hA (va_runV (As := [.int 2]) (rest := []) ⟨hx, hb, hml, hown, hT⟩ (cX12_fail_0 l G cy ev K ln Ls hW _ hp0 ok0 qa900 2 kd900 (b_wid2 bc_2 (by decide) (by decide))) (cwV 1 hT (good_V tb_1635 tb_1632 tb_1634 tb_55 tb_122) rfl rfl rfl (by decide +kernel) ⟨Nat.le_of_ble_eq_true rfl, Nat.le_of_ble_eq_true rfl⟩) (pool_preV (ci := 12) hK hE hS hA hw hW kd900 (by decide) rfl) rfl rfl hl.1 rfl (lv_room (Nat.le_of_ble_eq_true rfl)) dX12_roomFor_7 ⟨Nat.le_of_ble_eq_true rfl, Nat.le_of_ble_eq_true rfl⟩) (fun hp54 H locs hq57 hw hS => ?_)
    obtain ⟨ok55, F56, ⟨zi59, eq60, bd61⟩, rh62⟩ := hq57
    have hw : PW G cy K ln Ls A hp54 H := hw
    simp only [gi_of eq1, gi_of eq60] at rh62
    have eq63 : hp54 qa900 11 = .int zi5 := Eq.trans (Fr.at (cq := 13011) F56 kd900 (cd_o (by decide)) (by decide)) eq4
    exact jn30 hp54 zi59 _ _ ls ok55 (Fr.tr (Fr.rf) F56 (by decide)) (b_wid2 bd61 (by decide) (by decide)) eq60 (by omega) (by omega) (by omega) (lv_sub hl [0] rfl) hw hS

set_option maxRecDepth 100000 in
set_option maxHeartbeats 4000000 in
theorem cX12_bounded_0 (l : Launch) (G : va_G) (cy : Nat → ClassId) (ev : Ew) (K ln : Nat → Nat) (Ls : List Nat) (hW : SW K ln Ls) (sz : Nat) (hp0 : Nat → Nat → Value) (ok0 : Ok K hp0) (qa900 : Nat) (zi901 : Int32) (zi902 : Int32) (kd900 : K qa900 = 13) : Met l yX12_bounded (WS yX12_bounded cX12_bounded 4 (some .int)) { frames := 2, cells := 0, slots := 0, locals := 41 } (PB2 [.ref qa900, .int zi901, .int zi902] sz G cy ev (va_pl Ls (cellOf cy K ln hp0))) (QBi (S := (Nat → Nat → Value)) (fun (r : Int32) (u : (Nat → Nat → Value)) => Ok K u ∧ Fr [13011, 13013, 13014, 13015, 13016] K hp0 u ∧ (4*(gi u qa900 11) + (gi u qa900 13) ≥ 4*(gi hp0 qa900 11) + (gi hp0 qa900 13)) ∧ ((gi u qa900 13) ≥ (gi hp0 qa900 13)) ∧ (4*(gi u qa900 11) + (gi u qa900 13) ≥ 4*(gi hp0 qa900 11) + 1)) G (fun u => va_pl Ls (cellOf cy K ln u)) (va_A (va_pl Ls (cellOf cy K ln hp0)) sz)) 0 0 (va_A (va_pl Ls (cellOf cy K ln hp0)) sz) := by
  refine met_of2 (y := yX12_bounded) (L := 4) (av := [.ref qa900, .int zi901, .int zi902]) (Qc := fun A => QBi (S := (Nat → Nat → Value)) (fun (r : Int32) (u : (Nat → Nat → Value)) => Ok K u ∧ Fr [13011, 13013, 13014, 13015, 13016] K hp0 u ∧ (4*(gi u qa900 11) + (gi u qa900 13) ≥ 4*(gi hp0 qa900 11) + (gi hp0 qa900 13)) ∧ ((gi u qa900 13) ≥ (gi hp0 qa900 13)) ∧ (4*(gi u qa900 11) + (gi u qa900 13) ≥ 4*(gi hp0 qa900 11) + 1)) G (fun u => va_pl Ls (cellOf cy K ln u)) A) (plainFor_of_name (by decide)) (Nat.le_of_ble_eq_true rfl) ?_
  intro p e s m below meth c hsz hx hb hr hml hown hT hlocks hin hK A hA hE hw hS ls hl
  have hw : PW G cy K ln Ls A hp0 s.heap := hw
  have hown : s.vm.findClass "LieClockModel" = some m.cls := hown
  have hl : lv_has ls 4 [(0, .ref qa900), (1, .int zi901), (2, .int zi902)] := hl
  obtain ⟨Q, hQ⟩ : ∃ Q : State → Prop, Q = MQ below (QBi (S := (Nat → Nat → Value)) (fun (r : Int32) (u : (Nat → Nat → Value)) => Ok K u ∧ Fr [13011, 13013, 13014, 13015, 13016] K hp0 u ∧ (4*(gi u qa900 11) + (gi u qa900 13) ≥ 4*(gi hp0 qa900 11) + (gi hp0 qa900 13)) ∧ ((gi u qa900 13) ≥ (gi hp0 qa900 13)) ∧ (4*(gi u qa900 11) + (gi u qa900 13) ≥ 4*(gi hp0 qa900 11) + 1)) G (fun u => va_pl Ls (cellOf cy K ln u)) A) ([.ref qa900, .int zi901, .int zi902] : List Value).toArray s 0 0 A := ⟨_, rfl⟩
  rw [← hQ]
  obtain ⟨zi2, eq1, bd3⟩ := rd_13013 ok0 kd900
  obtain ⟨zi5, eq4, bd6⟩ := rd_13011 ok0 kd900
  refine lv_aload_n hx hb dX12_bounded_0 rfl (lv_at hl 0 rfl) ?_
  refine p_get (ci := 12) (v := .int zi2) (C := RX12) (T := TX12) (N := 69) hx hb hT iw_X12 hown hK hw hW kd900 (by decide) rfl rfl 13 (by decide) eq1 (hT _ tb_1387) (fun _ h9 => h9) dX12_bounded_1 ?_
  refine lv_if_gt (tgt := 15) hx hb dX12_bounded_4 (by decide) (fun cn7 => ?_) (fun cn7 => ?_)
  · skip
    have bd8 : (1 : Int) ≤ zi2.toInt ∧ zi2.toInt ≤ 2 := r_lt_y cn7 bc_0 bd3 (by decide) (by decide)
    refine lv_aload_n hx hb dX12_bounded_15 rfl (lv_at hl 0 rfl) ?_
    refine lv_iconst (v := 1) hx hb dX12_bounded_16 (by decide) ?_
    refine kq_v hw hS hA (va_runV (As := [.int 1]) (rest := []) ⟨hx, hb, hml, hown, hT⟩ (cX12_fail_0 l G cy ev K ln Ls hW _ hp0 ok0 qa900 1 kd900 (b_wid2 bc_1 (by decide) (by decide))) (cwV 1 hT (good_V tb_1635 tb_1632 tb_1634 tb_55 tb_122) rfl rfl rfl (by decide +kernel) ⟨Nat.le_of_ble_eq_true rfl, Nat.le_of_ble_eq_true rfl⟩) (pool_preV (ci := 12) hK hE hS hA hw hW kd900 (by decide) rfl) rfl rfl hl.1 rfl (lv_room (Nat.le_of_ble_eq_true rfl)) dX12_bounded_17 ⟨Nat.le_of_ble_eq_true rfl, Nat.le_of_ble_eq_true rfl⟩) (fun hp9 H locs hq12 hw hS => ?_)
    obtain ⟨ok10, F11, ⟨zi14, eq15, bd16⟩, rh17⟩ := hq12
    have hw : PW G cy K ln Ls A hp9 H := hw
    simp only [gi_of eq1, gi_of eq15] at rh17
    refine lv_iload_n hx hb dX12_bounded_20 rfl (lv_at hl 1 rfl) ?_
    have eq18 : hp9 qa900 11 = .int zi5 := Eq.trans (Fr.at (cq := 13011) F11 kd900 (cd_o (by decide)) (by decide)) eq4
    rw [hQ]
    exact kz_i hx hb hr hlocks hS rfl hp9 hw ⟨ok10, (Fr.tr (Fr.rf) F11 (by decide)), (by simp only [gi_of eq1, gi_of eq15, gi_of eq18, gi_of eq4]; omega), (by simp only [gi_of eq1, gi_of eq15]; omega), (by simp only [gi_of eq15, gi_of eq18, gi_of eq4]; omega)⟩ (Nat.le_of_ble_eq_true rfl) (Nat.le_of_ble_eq_true rfl) dX12_bounded_21
  · skip
    have bd19 : (0 : Int) ≤ zi2.toInt ∧ zi2.toInt ≤ 0 := r_le_x (Int32.not_lt.mp cn7) bd3 bc_0 (by decide) (by decide)
    refine lv_aload_n hx hb dX12_bounded_7 rfl (lv_at hl 0 rfl) ?_
    refine lv_iconst (v := 2) hx hb dX12_bounded_8 (by decide) ?_
    obtain ⟨qa21, eq20, kd22⟩ := rd_13005 ok0 kd900
    obtain ⟨zi24, eq23⟩ := rd_62000 ok0 kd22 ((zi5 : Int32).toNatClampNeg)
    refine kq_i hw hS hA (va_runV (As := [.int 2]) (rest := []) ⟨hx, hb, hml, hown, hT⟩ (cX12_is_0 l G cy ev K ln Ls hW _ hp0 ok0 qa900 2 kd900) (cwV 1 hT (good_V tb_1623 tb_1620 tb_1622 tb_52 tb_122) rfl rfl rfl (by decide +kernel) ⟨Nat.le_of_ble_eq_true rfl, Nat.le_of_ble_eq_true rfl⟩) (pool_preV (ci := 12) hK hE hS hA hw hW kd900 (by decide) rfl) rfl rfl hl.1 rfl (lv_room (Nat.le_of_ble_eq_true rfl)) dX12_bounded_9 ⟨Nat.le_of_ble_eq_true rfl, Nat.le_of_ble_eq_true rfl⟩) (fun zi29 hp25 H locs hq28 hw hS => ?_)
    obtain ⟨ok26, F27, bd30, hc31, rh32, rh33, rh34⟩ := hq28
    obtain rfl : hp0 = hp25 := (Fr.nil F27).symm
    have hw : PW G cy K ln Ls A hp0 H := hw
    rcases b01 bd30 with cn35 | cn35
    · skip
      subst cn35
      have rh36 := rh34 rfl
      simp only [ge_of eq20 eq4 eq23, gi_of eq1, toi bc_2] at rh36
      refine lv_if_ne (tgt := 22) hx hb dX12_bounded_12 (by decide) (fun c => absurd (d_eq bc_0 bc_0) c) (fun _ => ?_)
      refine lv_aload_n hx hb dX12_bounded_15 rfl (lv_at hl 0 rfl) ?_
      refine lv_iconst (v := 1) hx hb dX12_bounded_16 (by decide) ?_
      refine kq_v hw hS hA (va_runV (As := [.int 1]) (rest := []) ⟨hx, hb, hml, hown, hT⟩ (cX12_fail_0 l G cy ev K ln Ls hW _ hp0 ok0 qa900 1 kd900 (b_wid2 bc_1 (by decide) (by decide))) (cwV 1 hT (good_V tb_1635 tb_1632 tb_1634 tb_55 tb_122) rfl rfl rfl (by decide +kernel) ⟨Nat.le_of_ble_eq_true rfl, Nat.le_of_ble_eq_true rfl⟩) (pool_preV (ci := 12) hK hE hS hA hw hW kd900 (by decide) rfl) rfl rfl hl.1 rfl (lv_room (Nat.le_of_ble_eq_true rfl)) dX12_bounded_17 ⟨Nat.le_of_ble_eq_true rfl, Nat.le_of_ble_eq_true rfl⟩) (fun hp37 H locs hq40 hw hS => ?_)
      obtain ⟨ok38, F39, ⟨zi42, eq43, bd44⟩, rh45⟩ := hq40
      have hw : PW G cy K ln Ls A hp37 H := hw
      simp only [gi_of eq1, gi_of eq43] at rh45
      refine lv_iload_n hx hb dX12_bounded_20 rfl (lv_at hl 1 rfl) ?_
      have eq46 : hp37 qa900 11 = .int zi5 := Eq.trans (Fr.at (cq := 13011) F39 kd900 (cd_o (by decide)) (by decide)) eq4
      rw [hQ]
      exact kz_i hx hb hr hlocks hS rfl hp37 hw ⟨ok38, (Fr.tr (Fr.rf) F39 (by decide)), (by simp only [gi_of eq1, gi_of eq4, gi_of eq43, gi_of eq46]; omega), (by simp only [gi_of eq1, gi_of eq43]; omega), (by simp only [gi_of eq4, gi_of eq43, gi_of eq46]; omega)⟩ (Nat.le_of_ble_eq_true rfl) (Nat.le_of_ble_eq_true rfl) dX12_bounded_21
    · skip
      subst cn35
      obtain ⟨zi47, eq48, bd49⟩ := hc31 rfl
      have hx50 : zi2 = zi47 := Value.int.inj (Eq.trans (Eq.symm eq1) eq48)
      subst hx50
      have bd51 : (0 : Int) ≤ zi2.toInt ∧ zi2.toInt ≤ 0 := b_meet bd19 bd49 (by decide) (by decide)
      have rh52 := rh32 rfl
      simp only [ge_of eq20 eq4 eq23, toi bc_2] at rh52
      have rh53 := rh33 rfl
      simp only [gi_of eq1] at rh53
      refine lv_if_ne (tgt := 22) hx hb dX12_bounded_12 (by decide) (fun _ => ?_) (fun c => absurd c (d_ne bc_1 bc_0 (by decide)))
      refine lv_aload_n hx hb dX12_bounded_22 rfl (lv_at hl 0 rfl) ?_
      obtain ⟨qa55, eq54, kd56⟩ := rd_13007 ok0 kd900
      refine p_get (ci := 12) (v := .ref qa55) (C := RX12) (T := TX12) (N := 69) hx hb hT iw_X12 hown hK hw hW kd900 (by decide) rfl rfl 7 (by decide) eq54 (hT _ tb_1381) (fun _ h9 => h9) dX12_bounded_23 ?_
      refine lv_aload_n hx hb dX12_bounded_26 rfl (lv_at hl 0 rfl) ?_
      refine p_get (ci := 12) (v := .int zi5) (C := RX12) (T := TX12) (N := 69) hx hb hT iw_X12 hown hK hw hW kd900 (by decide) rfl rfl 11 (by decide) eq4 (hT _ tb_1385) (fun _ h9 => h9) dX12_bounded_27 ?_
      obtain ⟨zi58, eq57⟩ := rd_64000 ok0 kd56 ((zi5 : Int32).toNatClampNeg)
      refine p_iald (v := zi58) hx hb hK hw hW kd56 (by decide) rfl (hW.len kd56 (n := 403) rfl (by decide)) (vp_b bd6 (by decide) (by decide)) eq57 dX12_bounded_30 ?_
      refine lv_istore_n (lv' := [(3, .int zi58), (0, .ref qa900), (1, .int zi901), (2, .int zi902)]) hx hb dX12_bounded_31 rfl hl (by decide) rfl (fun ls hl => ?_)
      refine lv_iload_n hx hb dX12_bounded_32 rfl (lv_at hl 0 rfl) ?_
      refine lv_iload_n hx hb dX12_bounded_33 rfl (lv_at hl 2 rfl) ?_
      have jn84 : ∀ (hp79 : Nat → Nat → Value)  (H : Heap) (locs : List Loc) (ls : Array Slot), Ok K hp79 → Fr [13015, 13016] K hp0 hp79 → (4*zi5.toInt + zi2.toInt ≥ 4*zi5.toInt + zi2.toInt) → (zi2.toInt ≥ zi2.toInt) → lv_has ls 4 [(0, .ref qa900), (3, .int zi58)] → PW G cy K ln Ls A hp79 H → va_S A s.heap H locs → W p l e ({ frames := 2, cells := 0, slots := 0, locals := 41 } : Room) s m ([.ref qa900, .int zi901, .int zi902] : List Value).toArray below meth c H locs 0 0 Q (F0 m 51 ls []) := by
        intro hp79 H locs ls ok81 F80 rq82 rq83 hl hw hS
        refine lv_aload_n hx hb dX12_bounded_51 rfl (lv_at hl 0 rfl) ?_
        have eq85 : hp79 qa900 13 = .int zi2 := Eq.trans (Fr.at (cq := 13013) F80 kd900 (cd_o (by decide)) (by decide)) eq1
        have eq86 : hp79 qa900 11 = .int zi5 := Eq.trans (Fr.at (cq := 13011) F80 kd900 (cd_o (by decide)) (by decide)) eq4
        refine kq_v hw hS hA (va_runV (As := []) (rest := []) ⟨hx, hb, hml, hown, hT⟩ (cX12_goesOn_0 l G cy ev K ln Ls hW _ hp79 ok81 qa900 kd900) (cwV 0 hT (good_V tb_1639 tb_1636 tb_1638 tb_56 tb_122) rfl rfl rfl (by decide +kernel) ⟨Nat.le_of_ble_eq_true rfl, Nat.le_of_ble_eq_true rfl⟩) (pool_preV (ci := 12) hK hE hS hA hw hW kd900 (by decide) rfl) rfl rfl hl.1 rfl (lv_room (Nat.le_of_ble_eq_true rfl)) dX12_bounded_52 ⟨Nat.le_of_ble_eq_true rfl, Nat.le_of_ble_eq_true rfl⟩) (fun hp87 H locs hq90 hw hS => ?_)
        obtain ⟨ok88, F89, ⟨zi92, eq93, bd94⟩, rh95, rh96, rh97⟩ := hq90
        have hw : PW G cy K ln Ls A hp87 H := hw
        obtain ⟨zi99, eq98, bd100⟩ := rd_13013 ok88 kd900
        simp only [gi_of eq85, gi_of eq86, gi_of eq93, gi_of eq98] at rh95
        simp only [gi_of eq85, gi_of eq98] at rh96
        simp only [gi_of eq86, gi_of eq93, gi_of eq98] at rh97
        refine lv_iload_n hx hb dX12_bounded_55 rfl (lv_at hl 1 rfl) ?_
        rw [hQ]
        exact kz_i hx hb hr hlocks hS rfl hp87 hw ⟨ok88, (Fr.tr (Fr.tr (Fr.rf) F80 (by decide)) F89 (by decide)), (by simp only [gi_of eq1, gi_of eq4, gi_of eq93, gi_of eq98]; omega), (by simp only [gi_of eq1, gi_of eq98]; omega), (by simp only [gi_of eq4, gi_of eq93, gi_of eq98]; omega)⟩ (Nat.le_of_ble_eq_true rfl) (Nat.le_of_ble_eq_true rfl) dX12_bounded_56
      refine lv_icmp_lt (tgt := 42) hx hb dX12_bounded_34 (by decide) (fun cn59 => ?_) (fun cn59 => ?_)
      · skip
        have tf101 : zi58.toInt < zi901.toInt := (fa_lt _ _).mp cn59
        have bd102 : (-2147483648 : Int) ≤ zi58.toInt ∧ zi58.toInt ≤ 2147483646 := r_lt_x cn59 (b_all zi58) (b_all zi901) (by decide) (by decide)
        have bd103 : (-2147483647 : Int) ≤ zi901.toInt ∧ zi901.toInt ≤ 2147483647 := r_lt_y cn59 (b_all zi58) (b_all zi901) (by decide) (by decide)
        refine lv_aload_n hx hb dX12_bounded_42 rfl (lv_at hl 1 rfl) ?_
        refine lv_iconst (v := 5) hx hb dX12_bounded_43 (by decide) ?_
        refine lv_aload_n hx hb dX12_bounded_44 rfl (lv_at hl 1 rfl) ?_
        refine p_get (ci := 12) (v := .int zi5) (C := RX12) (T := TX12) (N := 69) hx hb hT iw_X12 hown hK hw hW kd900 (by decide) rfl rfl 11 (by decide) eq4 (hT _ tb_1385) (fun _ h9 => h9) dX12_bounded_45 ?_
        refine kq_v hw hS hA (va_runV (As := [.int 5, .int zi5]) (rest := []) ⟨hx, hb, hml, hown, hT⟩ (cX12_wrong_0 l G cy ev K ln Ls hW _ hp0 ok0 qa900 5 zi5 kd900 (b_wid2 bd6 (by decide) (by decide))) (cwV 2 hT (good_V tb_1655 tb_1652 tb_1654 tb_60 tb_122) rfl rfl rfl (by decide +kernel) ⟨Nat.le_of_ble_eq_true rfl, Nat.le_of_ble_eq_true rfl⟩) (pool_preV (ci := 12) hK hE hS hA hw hW kd900 (by decide) rfl) rfl rfl hl.1 rfl (lv_room (Nat.le_of_ble_eq_true rfl)) dX12_bounded_48 ⟨Nat.le_of_ble_eq_true rfl, Nat.le_of_ble_eq_true rfl⟩) (fun hp104 H locs hq107 hw hS => ?_)
        obtain ⟨ok105, F106⟩ := hq107
        have hw : PW G cy K ln Ls A hp104 H := hw
        have eq109 : hp104 qa900 11 = .int zi5 := Eq.trans (Fr.at (cq := 13011) F106 kd900 (cd_o (by decide)) (by decide)) eq4
        have eq110 : hp104 qa900 13 = .int zi2 := Eq.trans (Fr.at (cq := 13013) F106 kd900 (cd_o (by decide)) (by decide)) eq1
        exact jn84 hp104 _ _ ls ok105 (Fr.tr (Fr.rf) F106 (by decide)) (by omega) (by omega) (lv_sub hl [1, 0] rfl) hw hS
      · skip
        have tf111 : zi901.toInt ≤ zi58.toInt := (fa_le _ _).mp (Int32.not_lt.mp cn59)
        refine lv_iload_n hx hb dX12_bounded_37 rfl (lv_at hl 0 rfl) ?_
        refine lv_iload_n hx hb dX12_bounded_38 rfl (lv_at hl 3 rfl) ?_
        refine lv_icmp_le (tgt := 51) hx hb dX12_bounded_39 (by decide) (fun cn112 => ?_) (fun cn112 => ?_)
        · skip
          have tf113 : zi58.toInt ≤ zi902.toInt := (fa_le _ _).mp cn112
          exact jn84 hp0 _ _ ls ok0 (Fr.rf) (by omega) (by omega) (lv_sub hl [1, 0] rfl) hw hS
        · skip
          have tf114 : zi902.toInt < zi58.toInt := (fa_lt _ _).mp (Int32.not_le.mp cn112)
          have bd115 : (-2147483648 : Int) ≤ zi902.toInt ∧ zi902.toInt ≤ 2147483646 := r_lt_x (Int32.not_le.mp cn112) (b_all zi902) (b_all zi58) (by decide) (by decide)
          have bd116 : (-2147483647 : Int) ≤ zi58.toInt ∧ zi58.toInt ≤ 2147483647 := r_lt_y (Int32.not_le.mp cn112) (b_all zi902) (b_all zi58) (by decide) (by decide)
          refine lv_aload_n hx hb dX12_bounded_42 rfl (lv_at hl 1 rfl) ?_
          refine lv_iconst (v := 5) hx hb dX12_bounded_43 (by decide) ?_
          refine lv_aload_n hx hb dX12_bounded_44 rfl (lv_at hl 1 rfl) ?_
          refine p_get (ci := 12) (v := .int zi5) (C := RX12) (T := TX12) (N := 69) hx hb hT iw_X12 hown hK hw hW kd900 (by decide) rfl rfl 11 (by decide) eq4 (hT _ tb_1385) (fun _ h9 => h9) dX12_bounded_45 ?_
          refine kq_v hw hS hA (va_runV (As := [.int 5, .int zi5]) (rest := []) ⟨hx, hb, hml, hown, hT⟩ (cX12_wrong_0 l G cy ev K ln Ls hW _ hp0 ok0 qa900 5 zi5 kd900 (b_wid2 bd6 (by decide) (by decide))) (cwV 2 hT (good_V tb_1655 tb_1652 tb_1654 tb_60 tb_122) rfl rfl rfl (by decide +kernel) ⟨Nat.le_of_ble_eq_true rfl, Nat.le_of_ble_eq_true rfl⟩) (pool_preV (ci := 12) hK hE hS hA hw hW kd900 (by decide) rfl) rfl rfl hl.1 rfl (lv_room (Nat.le_of_ble_eq_true rfl)) dX12_bounded_48 ⟨Nat.le_of_ble_eq_true rfl, Nat.le_of_ble_eq_true rfl⟩) (fun hp117 H locs hq120 hw hS => ?_)
          obtain ⟨ok118, F119⟩ := hq120
          have hw : PW G cy K ln Ls A hp117 H := hw
          have eq122 : hp117 qa900 11 = .int zi5 := Eq.trans (Fr.at (cq := 13011) F119 kd900 (cd_o (by decide)) (by decide)) eq4
          have eq123 : hp117 qa900 13 = .int zi2 := Eq.trans (Fr.at (cq := 13013) F119 kd900 (cd_o (by decide)) (by decide)) eq1
          exact jn84 hp117 _ _ ls ok118 (Fr.tr (Fr.rf) F119 (by decide)) (by omega) (by omega) (lv_sub hl [1, 0] rfl) hw hS

set_option maxRecDepth 100000 in
set_option maxHeartbeats 4000000 in
theorem cX12_tellCase_0 (l : Launch) (G : va_G) (cy : Nat → ClassId) (ev : Ew) (K ln : Nat → Nat) (Ls : List Nat) (hW : SW K ln Ls) (sz : Nat) (hp0 : Nat → Nat → Value) (ok0 : Ok K hp0) (qa900 : Nat) (kd900 : K qa900 = 13) (rp0 : (gi hp0 qa900 20) ≤ (ge hp0 qa900 24 19) + (ge hp0 qa900 27 19) + (ge hp0 qa900 32 19)) (rp1 : (gi hp0 qa900 12) ≤ 7*(gi hp0 qa900 13)) (rp2 : (ge hp0 qa900 32 19) ≤ 7) : Met l yX12_tellCase (WS yX12_tellCase cX12_tellCase 3 none) { frames := 5, cells := 0, slots := 0, locals := 107 } (PB2 [.ref qa900] sz G cy ev (va_pl Ls (cellOf cy K ln hp0))) (QBv (S := (Nat → Nat → Value)) (fun u : (Nat → Nat → Value) => Ok K u ∧ Fr [13011, 13012, 13013, 13014, 13015, 13016, 13020, 67000, 68000, 69000, 78000, 79000, 80000, 86000, 87000, 88000] K hp0 u ∧ (4*(gi u qa900 11) + (gi u qa900 13) ≥ 4*(gi hp0 qa900 11) + (gi hp0 qa900 13)) ∧ ((gi u qa900 13) ≥ (gi hp0 qa900 13)) ∧ ((gi u qa900 20) ≤ (ge u qa900 24 19) + (ge u qa900 27 19) + (ge u qa900 32 19)) ∧ ((gi u qa900 12) ≤ 7*(gi u qa900 13))) G (fun u => va_pl Ls (cellOf cy K ln u)) (va_A (va_pl Ls (cellOf cy K ln hp0)) sz)) 0 0 (va_A (va_pl Ls (cellOf cy K ln hp0)) sz) := by
  refine met_of2 (y := yX12_tellCase) (L := 3) (av := [.ref qa900]) (Qc := fun A => QBv (S := (Nat → Nat → Value)) (fun u : (Nat → Nat → Value) => Ok K u ∧ Fr [13011, 13012, 13013, 13014, 13015, 13016, 13020, 67000, 68000, 69000, 78000, 79000, 80000, 86000, 87000, 88000] K hp0 u ∧ (4*(gi u qa900 11) + (gi u qa900 13) ≥ 4*(gi hp0 qa900 11) + (gi hp0 qa900 13)) ∧ ((gi u qa900 13) ≥ (gi hp0 qa900 13)) ∧ ((gi u qa900 20) ≤ (ge u qa900 24 19) + (ge u qa900 27 19) + (ge u qa900 32 19)) ∧ ((gi u qa900 12) ≤ 7*(gi u qa900 13))) G (fun u => va_pl Ls (cellOf cy K ln u)) A) (plainFor_of_name (by decide)) (Nat.le_of_ble_eq_true rfl) ?_
  intro p e s m below meth c hsz hx hb hr hml hown hT hlocks hin hK A hA hE hw hS ls hl
  have hw : PW G cy K ln Ls A hp0 s.heap := hw
  have hown : s.vm.findClass "LieClockModel" = some m.cls := hown
  have hl : lv_has ls 3 [(0, .ref qa900)] := hl
  obtain ⟨Q, hQ⟩ : ∃ Q : State → Prop, Q = MQ below (QBv (S := (Nat → Nat → Value)) (fun u : (Nat → Nat → Value) => Ok K u ∧ Fr [13011, 13012, 13013, 13014, 13015, 13016, 13020, 67000, 68000, 69000, 78000, 79000, 80000, 86000, 87000, 88000] K hp0 u ∧ (4*(gi u qa900 11) + (gi u qa900 13) ≥ 4*(gi hp0 qa900 11) + (gi hp0 qa900 13)) ∧ ((gi u qa900 13) ≥ (gi hp0 qa900 13)) ∧ ((gi u qa900 20) ≤ (ge u qa900 24 19) + (ge u qa900 27 19) + (ge u qa900 32 19)) ∧ ((gi u qa900 12) ≤ 7*(gi u qa900 13))) G (fun u => va_pl Ls (cellOf cy K ln u)) A) ([.ref qa900] : List Value).toArray s 0 0 A := ⟨_, rfl⟩
  rw [← hQ]
  obtain ⟨qa2, eq1, kd3⟩ := rd_13032 ok0 kd900
  obtain ⟨zi5, eq4, bd6⟩ := rd_13019 ok0 kd900
  obtain ⟨zi8, eq7, bd9⟩ := rd_78000 ok0 kd3 ((zi5 : Int32).toNatClampNeg)
  obtain ⟨qa11, eq10, kd12⟩ := rd_13024 ok0 kd900
  obtain ⟨zi14, eq13, bd15⟩ := rd_70000 ok0 kd12 ((zi5 : Int32).toNatClampNeg)
  obtain ⟨zi17, eq16, bd18⟩ := rd_13013 ok0 kd900
  obtain ⟨zi20, eq19, bd21⟩ := rd_13020 ok0 kd900
  obtain ⟨zi23, eq22, bd24⟩ := rd_13012 ok0 kd900
  obtain ⟨zi26, eq25, bd27⟩ := rd_13011 ok0 kd900
  obtain ⟨qa29, eq28, kd30⟩ := rd_13027 ok0 kd900
  obtain ⟨zi32, eq31, bd33⟩ := rd_73000 ok0 kd30 ((zi5 : Int32).toNatClampNeg)
  have rq0 := rp0
  simp only [ge_of eq1 eq4 eq7, ge_of eq10 eq4 eq13, gi_of eq19, ge_of eq28 eq4 eq31] at rq0
  have rq1 := rp1
  simp only [gi_of eq16, gi_of eq22] at rq1
  have rq2 := rp2
  simp only [ge_of eq1 eq4 eq7] at rq2
  have bd34 : (0 : Int) ≤ zi8.toInt ∧ zi8.toInt ≤ 7 := (by omega)
  refine lv_bipush (v := 8) hx hb dX12_tellCase_0 (by decide) ?_
  refine lv_aload_n hx hb dX12_tellCase_2 rfl (lv_at hl 0 rfl) ?_
  refine p_get (ci := 12) (v := .int zi5) (C := RX12) (T := TX12) (N := 69) hx hb hT iw_X12 hown hK hw hW kd900 (by decide) rfl rfl 19 (by decide) eq4 (hT _ tb_1393) (fun _ h9 => h9) dX12_tellCase_3 ?_
  refine lv_imul hx hb dX12_tellCase_6 (lv_topi (fun zi35 ea36 => ?_))
  have bd37 : (0 : Int) ≤ zi35.toInt ∧ zi35.toInt ≤ 8 := b_imul ea36 bc_8 bd6 (by decide) (by decide) (by decide) (by decide) (by decide)
  have qe38 : zi35.toInt = (8 : Int32).toInt * (zi5 : Int32).toInt := e_imul (b := 8) (d := 1) ea36 (b_wid2 bc_8 (by decide) (by decide)) (b_wid2 bd6 (by decide) (by decide)) (by decide)
  have qe39 : zi35.toInt = 8 * zi5.toInt := by have ha : (8 : Int32).toInt = 8 := (by decide); rw [ha] at qe38; exact qe38
  refine lv_aload_n hx hb dX12_tellCase_7 rfl (lv_at hl 0 rfl) ?_
  refine p_get (ci := 12) (v := .ref qa2) (C := RX12) (T := TX12) (N := 69) hx hb hT iw_X12 hown hK hw hW kd900 (by decide) rfl rfl 32 (by decide) eq1 (hT _ tb_1406) (fun _ h9 => h9) dX12_tellCase_8 ?_
  refine lv_aload_n hx hb dX12_tellCase_11 rfl (lv_at hl 0 rfl) ?_
  refine p_get (ci := 12) (v := .int zi5) (C := RX12) (T := TX12) (N := 69) hx hb hT iw_X12 hown hK hw hW kd900 (by decide) rfl rfl 19 (by decide) eq4 (hT _ tb_1393) (fun _ h9 => h9) dX12_tellCase_12 ?_
  refine p_iald (v := zi8) hx hb hK hw hW kd3 (by decide) rfl (hW.len kd3 (n := 2) rfl (by decide)) (vp_b bd6 (by decide) (by decide)) eq7 dX12_tellCase_15 ?_
  refine lv_iadd hx hb dX12_tellCase_16 (lv_topi (fun zi40 ea41 => ?_))
  have bd42 : (0 : Int) ≤ zi40.toInt ∧ zi40.toInt ≤ 15 := b_iadd ea41 bd37 bd34 (by decide) (by decide) (by decide) (by decide)
  have qe43 : zi40.toInt = zi35.toInt + zi8.toInt := e_iadd ea41 bd37 bd34 (by decide) (by decide)
  refine lv_istore_n (lv' := [(1, .int zi40), (0, .ref qa900)]) hx hb dX12_tellCase_17 rfl hl (by decide) rfl (fun ls hl => ?_)
  refine lv_aload_n hx hb dX12_tellCase_18 rfl (lv_at hl 1 rfl) ?_
  refine kq_i hw hS hA (va_runV (As := []) (rest := []) ⟨hx, hb, hml, hown, hT⟩ (cX12_named_0 l G cy ev K ln Ls hW _ hp0 ok0 qa900 kd900) (cwV 0 hT (good_V tb_1647 tb_1644 tb_1646 tb_58 tb_122) rfl rfl rfl (by decide +kernel) ⟨Nat.le_of_ble_eq_true rfl, Nat.le_of_ble_eq_true rfl⟩) (pool_preV (ci := 12) hK hE hS hA hw hW kd900 (by decide) rfl) rfl rfl hl.1 rfl (lv_room (Nat.le_of_ble_eq_true rfl)) dX12_tellCase_19 ⟨Nat.le_of_ble_eq_true rfl, Nat.le_of_ble_eq_true rfl⟩) (fun zi48 hp44 H locs hq47 hw hS => ?_)
  obtain ⟨ok45, F46, bd49, rh50, rh51, rh52⟩ := hq47
  have hw : PW G cy K ln Ls A hp44 H := hw
  obtain ⟨zi54, eq53, bd55⟩ := rd_13013 ok45 kd900
  obtain ⟨zi57, eq56, bd58⟩ := rd_13011 ok45 kd900
  simp only [gi_of eq16, gi_of eq25, gi_of eq53, gi_of eq56] at rh50
  simp only [gi_of eq16, gi_of eq53] at rh51
  simp only [gi_of eq25, gi_of eq53, gi_of eq56] at rh52
  refine lv_istore_n (lv' := [(2, .int zi48), (1, .int zi40), (0, .ref qa900)]) hx hb dX12_tellCase_22 rfl hl (by decide) rfl (fun ls hl => ?_)
  refine lv_aload_n hx hb dX12_tellCase_23 rfl (lv_at hl 2 rfl) ?_
  obtain ⟨qa60, eq59, kd61⟩ := rd_13033 ok45 kd900
  refine p_get (ci := 12) (v := .ref qa60) (C := RX12) (T := TX12) (N := 69) hx hb hT iw_X12 hown hK hw hW kd900 (by decide) rfl rfl 33 (by decide) eq59 (hT _ tb_1407) (fun _ h9 => h9) dX12_tellCase_24 ?_
  refine lv_iload_n hx hb dX12_tellCase_27 rfl (lv_at hl 1 rfl) ?_
  refine lv_aload_n hx hb dX12_tellCase_28 rfl (lv_at hl 2 rfl) ?_
  refine lv_iconst (v := 0) hx hb dX12_tellCase_29 (by decide) ?_
  refine lv_sipush (v := 2879) hx hb dX12_tellCase_30 (by decide) ?_
  refine kq_i hw hS hA (va_runV (As := [.int 0, .int 2879]) (rest := [.int zi40, .ref qa60]) ⟨hx, hb, hml, hown, hT⟩ (cX12_bounded_0 l G cy ev K ln Ls hW _ hp44 ok45 qa900 0 2879 kd900) (cwV 2 hT (good_V tb_1699 tb_1696 tb_1698 tb_70 tb_122) rfl rfl rfl (by decide +kernel) ⟨Nat.le_of_ble_eq_true rfl, Nat.le_of_ble_eq_true rfl⟩) (pool_preV (ci := 12) hK hE hS hA hw hW kd900 (by decide) rfl) rfl rfl hl.1 rfl (lv_room (Nat.le_of_ble_eq_true rfl)) dX12_tellCase_33 ⟨Nat.le_of_ble_eq_true rfl, Nat.le_of_ble_eq_true rfl⟩) (fun zi66 hp62 H locs hq65 hw hS => ?_)
  obtain ⟨ok63, F64, rh67, rh68, rh69⟩ := hq65
  have hw : PW G cy K ln Ls A hp62 H := hw
  obtain ⟨zi71, eq70, bd72⟩ := rd_13013 ok63 kd900
  obtain ⟨zi74, eq73, bd75⟩ := rd_13011 ok63 kd900
  simp only [gi_of eq53, gi_of eq56, gi_of eq70, gi_of eq73] at rh67
  simp only [gi_of eq53, gi_of eq70] at rh68
  simp only [gi_of eq56, gi_of eq70, gi_of eq73] at rh69
  refine p_iast (x := zi66) hx hb hK hw hS hW kd61 (by decide) rfl (hW.len kd61 (n := 16) rfl (by decide)) (vp_b bd42 (by decide) (by decide)) dX12_tellCase_36 (fun hp76 eh77 H locs hw hS => ?_)
  have ok78 := wr_79000 ok63 kd61 eh77
  refine lv_aload_n hx hb dX12_tellCase_37 rfl (lv_at hl 2 rfl) ?_
  refine lv_iconst (v := 5) hx hb dX12_tellCase_38 (by decide) ?_
  have eq79 : hp76 qa900 13 = .int zi71 := Eq.trans (up_at eh77 (Or.inl (kd_ne kd900 kd61 (by decide)))) eq70
  have eq80 : hp76 qa900 11 = .int zi74 := Eq.trans (up_at eh77 (Or.inl (kd_ne kd900 kd61 (by decide)))) eq73
  refine kq_v hw hS hA (va_runV (As := [.int 5]) (rest := []) ⟨hx, hb, hml, hown, hT⟩ (cX12_must_0 l G cy ev K ln Ls hW _ hp76 ok78 qa900 5 kd900) (cwV 1 hT (good_V tb_1651 tb_1648 tb_1650 tb_59 tb_122) rfl rfl rfl (by decide +kernel) ⟨Nat.le_of_ble_eq_true rfl, Nat.le_of_ble_eq_true rfl⟩) (pool_preV (ci := 12) hK hE hS hA hw hW kd900 (by decide) rfl) rfl rfl hl.1 rfl (lv_room (Nat.le_of_ble_eq_true rfl)) dX12_tellCase_39 ⟨Nat.le_of_ble_eq_true rfl, Nat.le_of_ble_eq_true rfl⟩) (fun hp81 H locs hq84 hw hS => ?_)
  obtain ⟨ok82, F83, rh86, rh87, rh88⟩ := hq84
  have hw : PW G cy K ln Ls A hp81 H := hw
  obtain ⟨zi90, eq89, bd91⟩ := rd_13013 ok82 kd900
  obtain ⟨zi93, eq92, bd94⟩ := rd_13011 ok82 kd900
  simp only [gi_of eq79, gi_of eq80, gi_of eq89, gi_of eq92] at rh86
  simp only [gi_of eq79, gi_of eq89] at rh87
  simp only [gi_of eq80, gi_of eq89, gi_of eq92] at rh88
  refine lv_aload_n hx hb dX12_tellCase_42 rfl (lv_at hl 2 rfl) ?_
  obtain ⟨qa96, eq95, kd97⟩ := rd_13034 ok82 kd900
  refine p_get (ci := 12) (v := .ref qa96) (C := RX12) (T := TX12) (N := 69) hx hb hT iw_X12 hown hK hw hW kd900 (by decide) rfl rfl 34 (by decide) eq95 (hT _ tb_1408) (fun _ h9 => h9) dX12_tellCase_43 ?_
  refine lv_iload_n hx hb dX12_tellCase_46 rfl (lv_at hl 1 rfl) ?_
  refine lv_aload_n hx hb dX12_tellCase_47 rfl (lv_at hl 2 rfl) ?_
  have eq98 : hp81 qa900 12 = .int zi23 := Eq.trans (Fr.at (cq := 13012) F83 kd900 (cd_o (by decide)) (by decide)) (Eq.trans (up_at eh77 (Or.inl (kd_ne kd900 kd61 (by decide)))) (Eq.trans (Fr.at (cq := 13012) F64 kd900 (cd_o (by decide)) (by decide)) (Eq.trans (Fr.at (cq := 13012) F46 kd900 (cd_o (by decide)) (by decide)) eq22)))
  refine kq_l hw hS hA (va_runV (As := []) (rest := [.int zi40, .ref qa96]) ⟨hx, hb, hml, hown, hT⟩ (cX12_condition_0 l G cy ev K ln Ls hW _ hp81 ok82 qa900 kd900 (by simp only [gi_of eq89, gi_of eq98]; omega)) (cwV 0 hT (good_V tb_1675 tb_1672 tb_1674 tb_65 tb_122) rfl rfl rfl (by decide +kernel) ⟨Nat.le_of_ble_eq_true rfl, Nat.le_of_ble_eq_true rfl⟩) (pool_preV (ci := 12) hK hE hS hA hw hW kd900 (by decide) rfl) rfl rfl hl.1 rfl (lv_room (Nat.le_of_ble_eq_true rfl)) dX12_tellCase_48 ⟨Nat.le_of_ble_eq_true rfl, Nat.le_of_ble_eq_true rfl⟩) (fun wl103 hp99 H locs hq102 hw hS => ?_)
  obtain ⟨ok100, F101, rh104, rh105, rh106⟩ := hq102
  have hw : PW G cy K ln Ls A hp99 H := hw
  obtain ⟨zi108, eq107, bd109⟩ := rd_13013 ok100 kd900
  obtain ⟨zi111, eq110, bd112⟩ := rd_13011 ok100 kd900
  simp only [gi_of eq107, gi_of eq110, gi_of eq89, gi_of eq92] at rh104
  simp only [gi_of eq107, gi_of eq89] at rh105
  obtain ⟨zi114, eq113, bd115⟩ := rd_13012 ok100 kd900
  simp only [gi_of eq107, gi_of eq113] at rh106
  refine p_last (x := wl103) hx hb hK hw hS hW kd97 (by decide) rfl (hW.len kd97 (n := 16) rfl (by decide)) (vp_b bd42 (by decide) (by decide)) dX12_tellCase_51 (fun hp116 eh117 H locs hw hS => ?_)
  have ok118 := wr_80000 ok100 kd97 eh117
  refine lv_aload_n hx hb dX12_tellCase_52 rfl (lv_at hl 2 rfl) ?_
  refine lv_iconst (v := 4) hx hb dX12_tellCase_53 (by decide) ?_
  have eq119 : hp116 qa900 13 = .int zi108 := Eq.trans (up_at eh117 (Or.inl (kd_ne kd900 kd97 (by decide)))) eq107
  have eq120 : hp116 qa900 11 = .int zi111 := Eq.trans (up_at eh117 (Or.inl (kd_ne kd900 kd97 (by decide)))) eq110
  refine kq_v hw hS hA (va_runV (As := [.int 4]) (rest := []) ⟨hx, hb, hml, hown, hT⟩ (cX12_must_0 l G cy ev K ln Ls hW _ hp116 ok118 qa900 4 kd900) (cwV 1 hT (good_V tb_1651 tb_1648 tb_1650 tb_59 tb_122) rfl rfl rfl (by decide +kernel) ⟨Nat.le_of_ble_eq_true rfl, Nat.le_of_ble_eq_true rfl⟩) (pool_preV (ci := 12) hK hE hS hA hw hW kd900 (by decide) rfl) rfl rfl hl.1 rfl (lv_room (Nat.le_of_ble_eq_true rfl)) dX12_tellCase_54 ⟨Nat.le_of_ble_eq_true rfl, Nat.le_of_ble_eq_true rfl⟩) (fun hp121 H locs hq124 hw hS => ?_)
  obtain ⟨ok122, F123, rh126, rh127, rh128⟩ := hq124
  have hw : PW G cy K ln Ls A hp121 H := hw
  obtain ⟨zi130, eq129, bd131⟩ := rd_13013 ok122 kd900
  obtain ⟨zi133, eq132, bd134⟩ := rd_13011 ok122 kd900
  simp only [gi_of eq119, gi_of eq120, gi_of eq129, gi_of eq132] at rh126
  simp only [gi_of eq119, gi_of eq129] at rh127
  simp only [gi_of eq120, gi_of eq129, gi_of eq132] at rh128
  refine lv_aload_n hx hb dX12_tellCase_57 rfl (lv_at hl 2 rfl) ?_
  refine p_get (ci := 12) (v := .int zi130) (C := RX12) (T := TX12) (N := 69) hx hb hT iw_X12 hown hK hw hW kd900 (by decide) rfl rfl 13 (by decide) eq129 (hT _ tb_1387) (fun _ h9 => h9) dX12_tellCase_58 ?_
  have eq136 : hp121 qa900 20 = .int zi20 := Eq.trans (Fr.at (cq := 13020) F123 kd900 (cd_o (by decide)) (by decide)) (Eq.trans (up_at eh117 (Or.inl (kd_ne kd900 kd97 (by decide)))) (Eq.trans (Fr.at (cq := 13020) F101 kd900 (cd_o (by decide)) (by decide)) (Eq.trans (Fr.at (cq := 13020) F83 kd900 (cd_o (by decide)) (by decide)) (Eq.trans (up_at eh77 (Or.inl (kd_ne kd900 kd61 (by decide)))) (Eq.trans (Fr.at (cq := 13020) F64 kd900 (cd_o (by decide)) (by decide)) (Eq.trans (Fr.at (cq := 13020) F46 kd900 (cd_o (by decide)) (by decide)) eq19))))))
  have eq137 : hp121 qa900 24 = .ref qa11 := Eq.trans (Fr.at (cq := 13024) F123 kd900 (cd_o (by decide)) (by decide)) (Eq.trans (up_at eh117 (Or.inl (kd_ne kd900 kd97 (by decide)))) (Eq.trans (Fr.at (cq := 13024) F101 kd900 (cd_o (by decide)) (by decide)) (Eq.trans (Fr.at (cq := 13024) F83 kd900 (cd_o (by decide)) (by decide)) (Eq.trans (up_at eh77 (Or.inl (kd_ne kd900 kd61 (by decide)))) (Eq.trans (Fr.at (cq := 13024) F64 kd900 (cd_o (by decide)) (by decide)) (Eq.trans (Fr.at (cq := 13024) F46 kd900 (cd_o (by decide)) (by decide)) eq10))))))
  have eq138 : hp121 qa900 19 = .int zi5 := Eq.trans (Fr.at (cq := 13019) F123 kd900 (cd_o (by decide)) (by decide)) (Eq.trans (up_at eh117 (Or.inl (kd_ne kd900 kd97 (by decide)))) (Eq.trans (Fr.at (cq := 13019) F101 kd900 (cd_o (by decide)) (by decide)) (Eq.trans (Fr.at (cq := 13019) F83 kd900 (cd_o (by decide)) (by decide)) (Eq.trans (up_at eh77 (Or.inl (kd_ne kd900 kd61 (by decide)))) (Eq.trans (Fr.at (cq := 13019) F64 kd900 (cd_o (by decide)) (by decide)) (Eq.trans (Fr.at (cq := 13019) F46 kd900 (cd_o (by decide)) (by decide)) eq4))))))
  have eq139 : hp121 qa11 (zi5 : Int32).toNatClampNeg = .int zi14 := Eq.trans (Fr.at (cq := 70000) F123 kd12 (cd_a (by decide)) (by decide)) (Eq.trans (up_at eh117 (Or.inl (kd_ne kd12 kd97 (by decide)))) (Eq.trans (Fr.at (cq := 70000) F101 kd12 (cd_a (by decide)) (by decide)) (Eq.trans (Fr.at (cq := 70000) F83 kd12 (cd_a (by decide)) (by decide)) (Eq.trans (up_at eh77 (Or.inl (kd_ne kd12 kd61 (by decide)))) (Eq.trans (Fr.at (cq := 70000) F64 kd12 (cd_a (by decide)) (by decide)) (Eq.trans (Fr.at (cq := 70000) F46 kd12 (cd_a (by decide)) (by decide)) eq13))))))
  have eq140 : hp121 qa900 27 = .ref qa29 := Eq.trans (Fr.at (cq := 13027) F123 kd900 (cd_o (by decide)) (by decide)) (Eq.trans (up_at eh117 (Or.inl (kd_ne kd900 kd97 (by decide)))) (Eq.trans (Fr.at (cq := 13027) F101 kd900 (cd_o (by decide)) (by decide)) (Eq.trans (Fr.at (cq := 13027) F83 kd900 (cd_o (by decide)) (by decide)) (Eq.trans (up_at eh77 (Or.inl (kd_ne kd900 kd61 (by decide)))) (Eq.trans (Fr.at (cq := 13027) F64 kd900 (cd_o (by decide)) (by decide)) (Eq.trans (Fr.at (cq := 13027) F46 kd900 (cd_o (by decide)) (by decide)) eq28))))))
  have eq141 : hp121 qa29 (zi5 : Int32).toNatClampNeg = .int zi32 := Eq.trans (Fr.at (cq := 73000) F123 kd30 (cd_a (by decide)) (by decide)) (Eq.trans (up_at eh117 (Or.inl (kd_ne kd30 kd97 (by decide)))) (Eq.trans (Fr.at (cq := 73000) F101 kd30 (cd_a (by decide)) (by decide)) (Eq.trans (Fr.at (cq := 73000) F83 kd30 (cd_a (by decide)) (by decide)) (Eq.trans (up_at eh77 (Or.inl (kd_ne kd30 kd61 (by decide)))) (Eq.trans (Fr.at (cq := 73000) F64 kd30 (cd_a (by decide)) (by decide)) (Eq.trans (Fr.at (cq := 73000) F46 kd30 (cd_a (by decide)) (by decide)) eq31))))))
  have eq142 : hp121 qa900 32 = .ref qa2 := Eq.trans (Fr.at (cq := 13032) F123 kd900 (cd_o (by decide)) (by decide)) (Eq.trans (up_at eh117 (Or.inl (kd_ne kd900 kd97 (by decide)))) (Eq.trans (Fr.at (cq := 13032) F101 kd900 (cd_o (by decide)) (by decide)) (Eq.trans (Fr.at (cq := 13032) F83 kd900 (cd_o (by decide)) (by decide)) (Eq.trans (up_at eh77 (Or.inl (kd_ne kd900 kd61 (by decide)))) (Eq.trans (Fr.at (cq := 13032) F64 kd900 (cd_o (by decide)) (by decide)) (Eq.trans (Fr.at (cq := 13032) F46 kd900 (cd_o (by decide)) (by decide)) eq1))))))
  have eq143 : hp121 qa2 (zi5 : Int32).toNatClampNeg = .int zi8 := Eq.trans (Fr.at (cq := 78000) F123 kd3 (cd_a (by decide)) (by decide)) (Eq.trans (up_at eh117 (Or.inl (kd_ne kd3 kd97 (by decide)))) (Eq.trans (Fr.at (cq := 78000) F101 kd3 (cd_a (by decide)) (by decide)) (Eq.trans (Fr.at (cq := 78000) F83 kd3 (cd_a (by decide)) (by decide)) (Eq.trans (up_at eh77 (Or.inl (kd_ne kd3 kd61 (by decide)))) (Eq.trans (Fr.at (cq := 78000) F64 kd3 (cd_a (by decide)) (by decide)) (Eq.trans (Fr.at (cq := 78000) F46 kd3 (cd_a (by decide)) (by decide)) eq7))))))
  have eq144 : hp121 qa900 12 = .int zi114 := Eq.trans (Fr.at (cq := 13012) F123 kd900 (cd_o (by decide)) (by decide)) (Eq.trans (up_at eh117 (Or.inl (kd_ne kd900 kd97 (by decide)))) eq113)
  refine lv_if_le (tgt := 65) hx hb dX12_tellCase_61 (by decide) (fun cn135 => ?_) (fun cn135 => ?_)
  · skip
    have bd145 : (0 : Int) ≤ zi130.toInt ∧ zi130.toInt ≤ 0 := r_le_x cn135 bd131 bc_0 (by decide) (by decide)
    have bd146 : (0 : Int) ≤ zi20.toInt ∧ zi20.toInt ≤ 19 := (by omega)
    refine lv_aload_n hx hb dX12_tellCase_65 rfl (lv_at hl 2 rfl) ?_
    refine lv_iload_n hx hb dX12_tellCase_66 rfl (lv_at hl 0 rfl) ?_
    refine lv_iconst (v := 2) hx hb dX12_tellCase_67 (by decide) ?_
    refine lv_aload_n hx hb dX12_tellCase_68 rfl (lv_at hl 2 rfl) ?_
    refine p_get (ci := 12) (v := .ref qa2) (C := RX12) (T := TX12) (N := 69) hx hb hT iw_X12 hown hK hw hW kd900 (by decide) rfl rfl 32 (by decide) eq142 (hT _ tb_1406) (fun _ h9 => h9) dX12_tellCase_69 ?_
    refine lv_aload_n hx hb dX12_tellCase_72 rfl (lv_at hl 2 rfl) ?_
    refine p_get (ci := 12) (v := .int zi5) (C := RX12) (T := TX12) (N := 69) hx hb hT iw_X12 hown hK hw hW kd900 (by decide) rfl rfl 19 (by decide) eq138 (hT _ tb_1393) (fun _ h9 => h9) dX12_tellCase_73 ?_
    refine p_iald (v := zi8) hx hb hK hw hW kd3 (by decide) rfl (hW.len kd3 (n := 2) rfl (by decide)) (vp_b bd6 (by decide) (by decide)) eq143 dX12_tellCase_76 ?_
    refine kq_v hw hS hA (va_runV (As := [.int zi48, .int 2, .int zi8]) (rest := []) ⟨hx, hb, hml, hown, hT⟩ (cX12_notes_0 l G cy ev K ln Ls hW _ hp121 ok122 qa900 zi48 2 zi8 zi20 kd900 (b_wid2 bd49 (by decide) (by decide)) (b_wid2 bd34 (by decide) (by decide)) eq136 (b_wid2 bd146 (by decide) (by decide))) (cwV 3 hT (good_V tb_1659 tb_1656 tb_1658 tb_61 tb_122) rfl rfl rfl (by decide +kernel) ⟨Nat.le_of_ble_eq_true rfl, Nat.le_of_ble_eq_true rfl⟩) (pool_preV (ci := 12) hK hE hS hA hw hW kd900 (by decide) rfl) rfl rfl hl.1 rfl (lv_room (Nat.le_of_ble_eq_true rfl)) dX12_tellCase_77 ⟨Nat.le_of_ble_eq_true rfl, Nat.le_of_ble_eq_true rfl⟩) (fun hp147 H locs hq150 hw hS => ?_)
    obtain ⟨ok148, F149, ⟨zi152, eq153, bd154⟩, rh155⟩ := hq150
    have hw : PW G cy K ln Ls A hp147 H := hw
    simp only [gi_of eq136, gi_of eq153] at rh155
    refine lv_aload_n hx hb dX12_tellCase_80 rfl (lv_at hl 2 rfl) ?_
    have eq156 : hp147 qa900 32 = .ref qa2 := Eq.trans (Fr.at (cq := 13032) F149 kd900 (cd_o (by decide)) (by decide)) eq142
    refine p_get (ci := 12) (v := .ref qa2) (C := RX12) (T := TX12) (N := 69) hx hb hT iw_X12 hown hK hw hW kd900 (by decide) rfl rfl 32 (by decide) eq156 (hT _ tb_1406) (fun _ h9 => h9) dX12_tellCase_81 ?_
    refine lv_aload_n hx hb dX12_tellCase_84 rfl (lv_at hl 2 rfl) ?_
    have eq157 : hp147 qa900 19 = .int zi5 := Eq.trans (Fr.at (cq := 13019) F149 kd900 (cd_o (by decide)) (by decide)) eq138
    refine p_get (ci := 12) (v := .int zi5) (C := RX12) (T := TX12) (N := 69) hx hb hT iw_X12 hown hK hw hW kd900 (by decide) rfl rfl 19 (by decide) eq157 (hT _ tb_1393) (fun _ h9 => h9) dX12_tellCase_85 ?_
    refine lv_dup2_11 hx hb dX12_tellCase_88 rfl rfl ?_
    have eq158 : hp147 qa2 (zi5 : Int32).toNatClampNeg = .int zi8 := Eq.trans (Fr.at (cq := 78000) F149 kd3 (cd_a (by decide)) (by decide)) eq143
    refine p_iald (v := zi8) hx hb hK hw hW kd3 (by decide) rfl (hW.len kd3 (n := 2) rfl (by decide)) (vp_b bd6 (by decide) (by decide)) eq158 dX12_tellCase_89 ?_
    refine lv_iconst (v := 1) hx hb dX12_tellCase_90 (by decide) ?_
    refine lv_iadd hx hb dX12_tellCase_91 (lv_topi (fun zi159 ea160 => ?_))
    have bd161 : (1 : Int) ≤ zi159.toInt ∧ zi159.toInt ≤ 8 := b_iadd ea160 bd34 bc_1 (by decide) (by decide) (by decide) (by decide)
    have qe162 : zi159.toInt = (zi8 : Int32).toInt + (1 : Int32).toInt := e_iadd ea160 bd34 bc_1 (by decide) (by decide)
    have qe163 : zi159.toInt = zi8.toInt + 1 := by have ha : (1 : Int32).toInt = 1 := (by decide); rw [ha] at qe162; exact qe162
    refine p_iast (x := zi159) hx hb hK hw hS hW kd3 (by decide) rfl (hW.len kd3 (n := 2) rfl (by decide)) (vp_b bd6 (by decide) (by decide)) dX12_tellCase_92 (fun hp164 eh165 H locs hw hS => ?_)
    have ok166 := wr_78000 bd161 (by decide) (by decide) ok148 kd3 eh165
    have eq167 : hp164 qa900 13 = .int zi130 := Eq.trans (up_at eh165 (Or.inl (kd_ne kd900 kd3 (by decide)))) (Eq.trans (Fr.at (cq := 13013) F149 kd900 (cd_o (by decide)) (by decide)) eq129)
    have eq168 : hp164 qa900 11 = .int zi133 := Eq.trans (up_at eh165 (Or.inl (kd_ne kd900 kd3 (by decide)))) (Eq.trans (Fr.at (cq := 13011) F149 kd900 (cd_o (by decide)) (by decide)) eq132)
    have eq169 : hp164 qa900 32 = .ref qa2 := Eq.trans (up_at eh165 (Or.inl (kd_ne kd900 kd3 (by decide)))) eq156
    have eq170 : hp164 qa900 19 = .int zi5 := Eq.trans (up_at eh165 (Or.inl (kd_ne kd900 kd3 (by decide)))) eq157
    have eq171 : hp164 qa900 24 = .ref qa11 := Eq.trans (up_at eh165 (Or.inl (kd_ne kd900 kd3 (by decide)))) (Eq.trans (Fr.at (cq := 13024) F149 kd900 (cd_o (by decide)) (by decide)) eq137)
    have eq172 : hp164 qa11 (zi5 : Int32).toNatClampNeg = .int zi14 := Eq.trans (up_at eh165 (Or.inl (kd_ne kd12 kd3 (by decide)))) (Eq.trans (Fr.at (cq := 70000) F149 kd12 (cd_a (by decide)) (by decide)) eq139)
    have eq173 : hp164 qa900 20 = .int zi152 := Eq.trans (up_at eh165 (Or.inl (kd_ne kd900 kd3 (by decide)))) eq153
    have eq174 : hp164 qa900 27 = .ref qa29 := Eq.trans (up_at eh165 (Or.inl (kd_ne kd900 kd3 (by decide)))) (Eq.trans (Fr.at (cq := 13027) F149 kd900 (cd_o (by decide)) (by decide)) eq140)
    have eq175 : hp164 qa29 (zi5 : Int32).toNatClampNeg = .int zi32 := Eq.trans (up_at eh165 (Or.inl (kd_ne kd30 kd3 (by decide)))) (Eq.trans (Fr.at (cq := 73000) F149 kd30 (cd_a (by decide)) (by decide)) eq141)
    have eq176 : hp164 qa900 12 = .int zi114 := Eq.trans (up_at eh165 (Or.inl (kd_ne kd900 kd3 (by decide)))) (Eq.trans (Fr.at (cq := 13012) F149 kd900 (cd_o (by decide)) (by decide)) eq144)
    rw [hQ]
    exact kz_v hx hb hr hlocks hS hp164 hw ⟨ok166, (Fr.put (cq := 78000) (Fr.tr (Fr.tr (Fr.put (cq := 80000) (Fr.tr (Fr.tr (Fr.put (cq := 79000) (Fr.tr (Fr.tr (Fr.rf) F46 (by decide)) F64 (by decide)) eh77 kd61 (cd_a (by decide)) (by decide)) F83 (by decide)) F101 (by decide)) eh117 kd97 (cd_a (by decide)) (by decide)) F123 (by decide)) F149 (by decide)) eh165 kd3 (cd_a (by decide)) (by decide)), (by simp only [gi_of eq16, gi_of eq167, gi_of eq168, gi_of eq25]; omega), (by simp only [gi_of eq16, gi_of eq167]; omega), (by simp only [ge_of eq169 eq170 (hp_self eh165), ge_of eq171 eq170 eq172, ge_of eq174 eq170 eq175, gi_of eq173]; omega), (by simp only [gi_of eq167, gi_of eq176]; omega)⟩ (Nat.le_of_ble_eq_true rfl) (Nat.le_of_ble_eq_true rfl) dX12_tellCase_93
  · skip
    have bd177 : (1 : Int) ≤ zi130.toInt ∧ zi130.toInt ≤ 2 := r_lt_y (Int32.not_le.mp cn135) bc_0 bd131 (by decide) (by decide)
    rw [hQ]
    exact kz_v hx hb hr hlocks hS hp121 hw ⟨ok122, (Fr.tr (Fr.put (cq := 80000) (Fr.tr (Fr.tr (Fr.put (cq := 79000) (Fr.tr (Fr.tr (Fr.rf) F46 (by decide)) F64 (by decide)) eh77 kd61 (cd_a (by decide)) (by decide)) F83 (by decide)) F101 (by decide)) eh117 kd97 (cd_a (by decide)) (by decide)) F123 (by decide)), (by simp only [gi_of eq129, gi_of eq132, gi_of eq16, gi_of eq25]; omega), (by simp only [gi_of eq129, gi_of eq16]; omega), (by simp only [ge_of eq137 eq138 eq139, ge_of eq140 eq138 eq141, ge_of eq142 eq138 eq143, gi_of eq136]; omega), (by simp only [gi_of eq129, gi_of eq144]; omega)⟩ (Nat.le_of_ble_eq_true rfl) (Nat.le_of_ble_eq_true rfl) dX12_tellCase_64

set_option maxRecDepth 100000 in
set_option maxHeartbeats 4000000 in
theorem cX12_emit_0 (l : Launch) (G : va_G) (cy : Nat → ClassId) (ev : Ew) (K ln : Nat → Nat) (Ls : List Nat) (hW : SW K ln Ls) (sz : Nat) (hp0 : Nat → Nat → Value) (ok0 : Ok K hp0) (qa900 : Nat) (zi901 : Int32) (zi902 : Int32) (kd900 : K qa900 = 13) (bd901 : ((0 : Int) ≤ zi901.toInt ∧ zi901.toInt ≤ 5)) (rp0 : (gi hp0 qa900 38) ≤ 839) : Met l yX12_emit (WS yX12_emit cX12_emit 3 none) { frames := 0, cells := 0, slots := 0, locals := 0 } (PB2 [.ref qa900, .int zi901, .int zi902] sz G cy ev (va_pl Ls (cellOf cy K ln hp0))) (QBv (S := (Nat → Nat → Value)) (fun u : (Nat → Nat → Value) => Ok K u ∧ Fr [13038, 84000, 85000] K hp0 u ∧ (∃ z : Int32, u qa900 38 = .int z ∧ ((1 : Int) ≤ z.toInt ∧ z.toInt ≤ 840)) ∧ (EMI hp0 u qa900 zi901 zi902) ∧ ((gi u qa900 38) = (gi hp0 qa900 38) + 1)) G (fun u => va_pl Ls (cellOf cy K ln u)) (va_A (va_pl Ls (cellOf cy K ln hp0)) sz)) 0 0 (va_A (va_pl Ls (cellOf cy K ln hp0)) sz) := by
  refine met_of2 (y := yX12_emit) (L := 3) (av := [.ref qa900, .int zi901, .int zi902]) (Qc := fun A => QBv (S := (Nat → Nat → Value)) (fun u : (Nat → Nat → Value) => Ok K u ∧ Fr [13038, 84000, 85000] K hp0 u ∧ (∃ z : Int32, u qa900 38 = .int z ∧ ((1 : Int) ≤ z.toInt ∧ z.toInt ≤ 840)) ∧ (EMI hp0 u qa900 zi901 zi902) ∧ ((gi u qa900 38) = (gi hp0 qa900 38) + 1)) G (fun u => va_pl Ls (cellOf cy K ln u)) A) (plainFor_of_name (by decide)) (Nat.le_of_ble_eq_true rfl) ?_
  intro p e s m below meth c hsz hx hb hr hml hown hT hlocks hin hK A hA hE hw hS ls hl
  have hw : PW G cy K ln Ls A hp0 s.heap := hw
  have hown : s.vm.findClass "LieClockModel" = some m.cls := hown
  have hl : lv_has ls 3 [(0, .ref qa900), (1, .int zi901), (2, .int zi902)] := hl
  obtain ⟨Q, hQ⟩ : ∃ Q : State → Prop, Q = MQ below (QBv (S := (Nat → Nat → Value)) (fun u : (Nat → Nat → Value) => Ok K u ∧ Fr [13038, 84000, 85000] K hp0 u ∧ (∃ z : Int32, u qa900 38 = .int z ∧ ((1 : Int) ≤ z.toInt ∧ z.toInt ≤ 840)) ∧ (EMI hp0 u qa900 zi901 zi902) ∧ ((gi u qa900 38) = (gi hp0 qa900 38) + 1)) G (fun u => va_pl Ls (cellOf cy K ln u)) A) ([.ref qa900, .int zi901, .int zi902] : List Value).toArray s 0 0 A := ⟨_, rfl⟩
  rw [← hQ]
  obtain ⟨zi2, eq1, bd3⟩ := rd_13038 ok0 kd900
  have rq0 := rp0
  simp only [gi_of eq1] at rq0
  have bd4 : (0 : Int) ≤ zi2.toInt ∧ zi2.toInt ≤ 839 := (by omega)
  refine lv_aload_n hx hb dX12_emit_0 rfl (lv_at hl 0 rfl) ?_
  obtain ⟨qa6, eq5, kd7⟩ := rd_13039 ok0 kd900
  obtain ⟨qa9, eq8, kd10⟩ := rd_13040 ok0 kd900
  refine p_get (ci := 12) (v := .ref qa6) (C := RX12) (T := TX12) (N := 69) hx hb hT iw_X12 hown hK hw hW kd900 (by decide) rfl rfl 39 (by decide) eq5 (hT _ tb_1413) (fun _ h9 => h9) dX12_emit_1 ?_
  refine lv_aload_n hx hb dX12_emit_4 rfl (lv_at hl 0 rfl) ?_
  refine p_get (ci := 12) (v := .int zi2) (C := RX12) (T := TX12) (N := 69) hx hb hT iw_X12 hown hK hw hW kd900 (by decide) rfl rfl 38 (by decide) eq1 (hT _ tb_1412) (fun _ h9 => h9) dX12_emit_5 ?_
  refine lv_iload_n hx hb dX12_emit_8 rfl (lv_at hl 1 rfl) ?_
  refine p_iast (x := zi901) hx hb hK hw hS hW kd7 (by decide) rfl (hW.len kd7 (n := 840) rfl (by decide)) (vp_b bd4 (by decide) (by decide)) dX12_emit_9 (fun hp11 eh12 H locs hw hS => ?_)
  have ok13 := wr_84000 bd901 (by decide) (by decide) ok0 kd7 eh12
  refine lv_aload_n hx hb dX12_emit_10 rfl (lv_at hl 0 rfl) ?_
  have eq14 : hp11 qa900 40 = .ref qa9 := Eq.trans (up_at eh12 (Or.inl (kd_ne kd900 kd7 (by decide)))) eq8
  refine p_get (ci := 12) (v := .ref qa9) (C := RX12) (T := TX12) (N := 69) hx hb hT iw_X12 hown hK hw hW kd900 (by decide) rfl rfl 40 (by decide) eq14 (hT _ tb_1414) (fun _ h9 => h9) dX12_emit_11 ?_
  refine lv_aload_n hx hb dX12_emit_14 rfl (lv_at hl 0 rfl) ?_
  have eq15 : hp11 qa900 38 = .int zi2 := Eq.trans (up_at eh12 (Or.inl (kd_ne kd900 kd7 (by decide)))) eq1
  refine p_get (ci := 12) (v := .int zi2) (C := RX12) (T := TX12) (N := 69) hx hb hT iw_X12 hown hK hw hW kd900 (by decide) rfl rfl 38 (by decide) eq15 (hT _ tb_1412) (fun _ h9 => h9) dX12_emit_15 ?_
  refine lv_iload_n hx hb dX12_emit_18 rfl (lv_at hl 2 rfl) ?_
  refine p_iast (x := zi902) hx hb hK hw hS hW kd10 (by decide) rfl (hW.len kd10 (n := 840) rfl (by decide)) (vp_b bd4 (by decide) (by decide)) dX12_emit_19 (fun hp16 eh17 H locs hw hS => ?_)
  have ok18 := wr_85000 ok13 kd10 eh17
  refine lv_aload_n hx hb dX12_emit_20 rfl (lv_at hl 0 rfl) ?_
  refine lv_dup hx hb dX12_emit_21 rfl ?_
  have eq19 : hp16 qa900 38 = .int zi2 := Eq.trans (up_at eh17 (Or.inl (kd_ne kd900 kd10 (by decide)))) eq15
  refine p_get (ci := 12) (v := .int zi2) (C := RX12) (T := TX12) (N := 69) hx hb hT iw_X12 hown hK hw hW kd900 (by decide) rfl rfl 38 (by decide) eq19 (hT _ tb_1412) (fun _ h9 => h9) dX12_emit_22 ?_
  refine lv_iconst (v := 1) hx hb dX12_emit_25 (by decide) ?_
  refine lv_iadd hx hb dX12_emit_26 (lv_topi (fun zi20 ea21 => ?_))
  have bd22 : (1 : Int) ≤ zi20.toInt ∧ zi20.toInt ≤ 840 := b_iadd ea21 bd4 bc_1 (by decide) (by decide) (by decide) (by decide)
  have qe23 : zi20.toInt = (zi2 : Int32).toInt + (1 : Int32).toInt := e_iadd ea21 bd4 bc_1 (by decide) (by decide)
  have qe24 : zi20.toInt = zi2.toInt + 1 := by have ha : (1 : Int32).toInt = 1 := (by decide); rw [ha] at qe23; exact qe23
  refine p_put (ci := 12) (v := .int zi20) (ty := .int) (C := RX12) (T := TX12) (N := 69) hx hb hT iw_X12 tyX12 tyX12_ok nmX12 hown hK hw hS hW kd900 (by decide) rfl rfl 38 (by decide) (hT _ tb_1412) (fun _ h9 => h9) rfl (by decide +kernel) rfl rfl dX12_emit_27 (fun hp25 eh26 H locs hw hS => ?_)
  have ok27 := wr_13038 bd22 (by decide) (by decide) ok18 kd900 eh26
  have eq28 : hp25 qa900 39 = .ref qa6 := Eq.trans (up_at eh26 (Or.inr (by decide))) (Eq.trans (up_at eh17 (Or.inl (kd_ne kd900 kd10 (by decide)))) (Eq.trans (up_at eh12 (Or.inl (kd_ne kd900 kd7 (by decide)))) eq5))
  have eq29 : hp25 qa900 40 = .ref qa9 := Eq.trans (up_at eh26 (Or.inr (by decide))) (Eq.trans (up_at eh17 (Or.inl (kd_ne kd900 kd10 (by decide)))) eq14)
  rw [hQ]
  exact kz_v hx hb hr hlocks hS hp25 hw ⟨ok27, (Fr.put (cq := 13038) (Fr.put (cq := 85000) (Fr.put (cq := 84000) (Fr.rf) eh12 kd7 (cd_a (by decide)) (by decide)) eh17 kd10 (cd_a (by decide)) (by decide)) eh26 kd900 (cd_o (by decide)) (by decide)), ⟨_, (hp_self eh26), b_wid2 bd22 (by decide) (by decide)⟩, (⟨(by rw [show (gi hp0 qa900 38).toNat = (zi2 : Int32).toNatClampNeg from by rw [gi_of eq1]; exact clamp_toNat (by omega)]; exact (mA_up eq5 eq28 rfl eh12 (Eq.trans (show hp25 qa6 = hp16 qa6 from (by rw [eh26]; exact up2_row (kd_ne kd7 kd900 (by decide)))) (show hp16 qa6 = hp11 qa6 from (by rw [eh17]; exact up2_row (kd_ne kd7 kd10 (by decide))))))), (by rw [show (gi hp0 qa900 38).toNat = (zi2 : Int32).toNatClampNeg from by rw [gi_of eq1]; exact clamp_toNat (by omega)]; exact (mA_up eq8 eq29 (show hp11 qa9 = hp0 qa9 from (by rw [eh12]; exact up2_row (kd_ne kd10 kd7 (by decide)))) eh17 (show hp25 qa9 = hp16 qa9 from (by rw [eh26]; exact up2_row (kd_ne kd10 kd900 (by decide)))))), (by rw [gi_of (hp_self eh26), gi_of eq1]; omega)⟩), (by simp only [gi_of (hp_self eh26), gi_of eq1]; omega)⟩ (Nat.le_of_ble_eq_true rfl) (Nat.le_of_ble_eq_true rfl) dX12_emit_30

set_option maxRecDepth 100000 in
set_option maxHeartbeats 4000000 in
theorem cX12_unit_0 (l : Launch) (G : va_G) (cy : Nat → ClassId) (ev : Ew) (K ln : Nat → Nat) (Ls : List Nat) (hW : SW K ln Ls) (sz : Nat) (hp0 : Nat → Nat → Value) (ok0 : Ok K hp0) (qa900 : Nat) (gc0 : Int) (kd900 : K qa900 = 13) (rp0 : (gi hp0 qa900 38) + (gi hp0 qa900 45) ≤ 420*(gi hp0 qa900 19) + (gi hp0 qa900 11) + (gi hp0 qa900 13)) (pdEI0 : EIx hp0 qa900 gc0 0) (pdLPx : LPx hp0 qa900) : Met l yX12_unit (WS yX12_unit cX12_unit 1 none) { frames := 2, cells := 0, slots := 0, locals := 41 } (PB2 [.ref qa900] sz G cy ev (va_pl Ls (cellOf cy K ln hp0))) (QBv (S := (Nat → Nat → Value)) (fun u : (Nat → Nat → Value) => Ok K u ∧ Fr [13011, 13013, 13014, 13038, 84000, 85000] K hp0 u ∧ (LPx u qa900) ∧ (gi u qa900 13 = 0 → EIx u qa900 gc0 1) ∧ (4*(gi u qa900 11) + (gi u qa900 13) ≥ 4*(gi hp0 qa900 11) + (gi hp0 qa900 13)) ∧ ((gi u qa900 13) ≥ (gi hp0 qa900 13)) ∧ (4*(gi u qa900 11) + (gi u qa900 13) ≥ 4*(gi hp0 qa900 11) + 1) ∧ ((gi u qa900 38) + (gi u qa900 45) ≤ 420*(gi u qa900 19) + (gi u qa900 11) + (gi u qa900 13))) G (fun u => va_pl Ls (cellOf cy K ln u)) (va_A (va_pl Ls (cellOf cy K ln hp0)) sz)) 0 0 (va_A (va_pl Ls (cellOf cy K ln hp0)) sz) := by
  refine met_of2 (y := yX12_unit) (L := 1) (av := [.ref qa900]) (Qc := fun A => QBv (S := (Nat → Nat → Value)) (fun u : (Nat → Nat → Value) => Ok K u ∧ Fr [13011, 13013, 13014, 13038, 84000, 85000] K hp0 u ∧ (LPx u qa900) ∧ (gi u qa900 13 = 0 → EIx u qa900 gc0 1) ∧ (4*(gi u qa900 11) + (gi u qa900 13) ≥ 4*(gi hp0 qa900 11) + (gi hp0 qa900 13)) ∧ ((gi u qa900 13) ≥ (gi hp0 qa900 13)) ∧ (4*(gi u qa900 11) + (gi u qa900 13) ≥ 4*(gi hp0 qa900 11) + 1) ∧ ((gi u qa900 38) + (gi u qa900 45) ≤ 420*(gi u qa900 19) + (gi u qa900 11) + (gi u qa900 13))) G (fun u => va_pl Ls (cellOf cy K ln u)) A) (plainFor_of_name (by decide)) (Nat.le_of_ble_eq_true rfl) ?_
  intro p e s m below meth c hsz hx hb hr hml hown hT hlocks hin hK A hA hE hw hS ls hl
  have hw : PW G cy K ln Ls A hp0 s.heap := hw
  have hown : s.vm.findClass "LieClockModel" = some m.cls := hown
  have hl : lv_has ls 1 [(0, .ref qa900)] := hl
  obtain ⟨Q, hQ⟩ : ∃ Q : State → Prop, Q = MQ below (QBv (S := (Nat → Nat → Value)) (fun u : (Nat → Nat → Value) => Ok K u ∧ Fr [13011, 13013, 13014, 13038, 84000, 85000] K hp0 u ∧ (LPx u qa900) ∧ (gi u qa900 13 = 0 → EIx u qa900 gc0 1) ∧ (4*(gi u qa900 11) + (gi u qa900 13) ≥ 4*(gi hp0 qa900 11) + (gi hp0 qa900 13)) ∧ ((gi u qa900 13) ≥ (gi hp0 qa900 13)) ∧ (4*(gi u qa900 11) + (gi u qa900 13) ≥ 4*(gi hp0 qa900 11) + 1) ∧ ((gi u qa900 38) + (gi u qa900 45) ≤ 420*(gi u qa900 19) + (gi u qa900 11) + (gi u qa900 13))) G (fun u => va_pl Ls (cellOf cy K ln u)) A) ([.ref qa900] : List Value).toArray s 0 0 A := ⟨_, rfl⟩
  rw [← hQ]
  obtain ⟨zi2, eq1, bd3⟩ := rd_13038 ok0 kd900
  obtain ⟨zi5, eq4, bd6⟩ := rd_13013 ok0 kd900
  obtain ⟨zi8, eq7, bd9⟩ := rd_13019 ok0 kd900
  obtain ⟨zi11, eq10, bd12⟩ := rd_13011 ok0 kd900
  obtain ⟨zi14, eq13, bd15⟩ := rd_13045 ok0 kd900
  have rq0 := rp0
  simp only [gi_of eq1, gi_of eq4, gi_of eq7, gi_of eq10, gi_of eq13] at rq0
  refine lv_aload_n hx hb dX12_unit_0 rfl (lv_at hl 0 rfl) ?_
  refine lv_iconst (v := 2) hx hb dX12_unit_1 (by decide) ?_
  obtain ⟨qa17, eq16, kd18⟩ := rd_13005 ok0 kd900
  obtain ⟨zi20, eq19⟩ := rd_62000 ok0 kd18 ((zi11 : Int32).toNatClampNeg)
  refine kq_i hw hS hA (va_runV (As := [.int 2]) (rest := []) ⟨hx, hb, hml, hown, hT⟩ (cX12_is_0 l G cy ev K ln Ls hW _ hp0 ok0 qa900 2 kd900) (cwV 1 hT (good_V tb_1623 tb_1620 tb_1622 tb_52 tb_122) rfl rfl rfl (by decide +kernel) ⟨Nat.le_of_ble_eq_true rfl, Nat.le_of_ble_eq_true rfl⟩) (pool_preV (ci := 12) hK hE hS hA hw hW kd900 (by decide) rfl) rfl rfl hl.1 rfl (lv_room (Nat.le_of_ble_eq_true rfl)) dX12_unit_2 ⟨Nat.le_of_ble_eq_true rfl, Nat.le_of_ble_eq_true rfl⟩) (fun zi25 hp21 H locs hq24 hw hS => ?_)
  obtain ⟨ok22, F23, bd26, hc27, rh28, rh29, rh30⟩ := hq24
  obtain rfl : hp0 = hp21 := (Fr.nil F23).symm
  have hw : PW G cy K ln Ls A hp0 H := hw
  rcases b01 bd26 with cn31 | cn31
  · skip
    subst cn31
    have rh32 := rh30 rfl
    simp only [ge_of eq16 eq10 eq19, gi_of eq4, toi bc_2] at rh32
    refine lv_if_eq (tgt := 29) hx hb dX12_unit_5 (by decide) (fun _ => ?_) (fun c => absurd (d_eq bc_0 bc_0) c)
    refine lv_aload_n hx hb dX12_unit_29 rfl (lv_at hl 0 rfl) ?_
    refine p_get (ci := 12) (v := .int zi5) (C := RX12) (T := TX12) (N := 69) hx hb hT iw_X12 hown hK hw hW kd900 (by decide) rfl rfl 13 (by decide) eq4 (hT _ tb_1387) (fun _ h9 => h9) dX12_unit_30 ?_
    refine lv_if_ne (tgt := 110) hx hb dX12_unit_33 (by decide) (fun cn33 => ?_) (fun cn33 => ?_)
    · skip
      have tf34 : (zi5 : Int32).toInt ≠ (0 : Int32).toInt := fun e => cn33 (Int32.toInt_inj.mp e)
      have := toi bc_0
      have bd35 : (1 : Int) ≤ zi5.toInt ∧ zi5.toInt ≤ 2 := r_ne_lo cn33 bd6 (toi bc_0) (by decide) (by decide)
      refine lv_aload_n hx hb dX12_unit_110 rfl (lv_at hl 0 rfl) ?_
      refine lv_iconst (v := 1) hx hb dX12_unit_111 (by decide) ?_
      refine kq_v hw hS hA (va_runV (As := [.int 1]) (rest := []) ⟨hx, hb, hml, hown, hT⟩ (cX12_fail_0 l G cy ev K ln Ls hW _ hp0 ok0 qa900 1 kd900 (b_wid2 bc_1 (by decide) (by decide))) (cwV 1 hT (good_V tb_1635 tb_1632 tb_1634 tb_55 tb_122) rfl rfl rfl (by decide +kernel) ⟨Nat.le_of_ble_eq_true rfl, Nat.le_of_ble_eq_true rfl⟩) (pool_preV (ci := 12) hK hE hS hA hw hW kd900 (by decide) rfl) rfl rfl hl.1 rfl (lv_room (Nat.le_of_ble_eq_true rfl)) dX12_unit_112 ⟨Nat.le_of_ble_eq_true rfl, Nat.le_of_ble_eq_true rfl⟩) (fun hp36 H locs hq39 hw hS => ?_)
      obtain ⟨ok37, F38, ⟨zi41, eq42, bd43⟩, rh44⟩ := hq39
      have hw : PW G cy K ln Ls A hp36 H := hw
      simp only [gi_of eq4, gi_of eq42] at rh44
      have pd45 : LPx hp36 qa900 := LP_fr ok0 kd900 (Fr.tr (Fr.rf) F38 (by decide)) (by decide) pdLPx
      have eq46 : hp36 qa900 11 = .int zi11 := Eq.trans (Fr.at (cq := 13011) F38 kd900 (cd_o (by decide)) (by decide)) eq10
      have eq47 : hp36 qa900 38 = .int zi2 := Eq.trans (Fr.at (cq := 13038) F38 kd900 (cd_o (by decide)) (by decide)) eq1
      have eq48 : hp36 qa900 19 = .int zi8 := Eq.trans (Fr.at (cq := 13019) F38 kd900 (cd_o (by decide)) (by decide)) eq7
      have eq49 : hp36 qa900 45 = .int zi14 := Eq.trans (Fr.at (cq := 13045) F38 kd900 (cd_o (by decide)) (by decide)) eq13
      rw [hQ]
      exact kz_v hx hb hr hlocks hS hp36 hw ⟨ok37, (Fr.tr (Fr.rf) F38 (by decide)), (pd45), (fun h => absurd h (by rw [gi_of eq42]; omega)), (by simp only [gi_of eq10, gi_of eq4, gi_of eq42, gi_of eq46]; omega), (by simp only [gi_of eq4, gi_of eq42]; omega), (by simp only [gi_of eq10, gi_of eq42, gi_of eq46]; omega), (by simp only [gi_of eq42, gi_of eq46, gi_of eq47, gi_of eq48, gi_of eq49]; omega)⟩ (Nat.le_of_ble_eq_true rfl) (Nat.le_of_ble_eq_true rfl) dX12_unit_115
    · skip
      have bd50 : (0 : Int) ≤ zi5.toInt ∧ zi5.toInt ≤ 0 := r_eq_x cn33 bd6 bc_0 (by decide) (by decide)
      refine lv_aload_n hx hb dX12_unit_36 rfl (lv_at hl 0 rfl) ?_
      refine p_get (ci := 12) (v := .ref qa17) (C := RX12) (T := TX12) (N := 69) hx hb hT iw_X12 hown hK hw hW kd900 (by decide) rfl rfl 5 (by decide) eq16 (hT _ tb_1379) (fun _ h9 => h9) dX12_unit_37 ?_
      refine lv_aload_n hx hb dX12_unit_40 rfl (lv_at hl 0 rfl) ?_
      refine p_get (ci := 12) (v := .int zi11) (C := RX12) (T := TX12) (N := 69) hx hb hT iw_X12 hown hK hw hW kd900 (by decide) rfl rfl 11 (by decide) eq10 (hT _ tb_1385) (fun _ h9 => h9) dX12_unit_41 ?_
      refine p_iald (v := zi20) hx hb hK hw hW kd18 (by decide) rfl (hW.len kd18 (n := 403) rfl (by decide)) (vp_b bd12 (by decide) (by decide)) eq19 dX12_unit_44 ?_
      refine lv_bipush (v := 34) hx hb dX12_unit_45 (by decide) ?_
      refine lv_icmp_lt (tgt := 64) hx hb dX12_unit_47 (by decide) (fun cn51 => ?_) (fun cn51 => ?_)
      · skip
        have bd52 : (-2147483648 : Int) ≤ zi20.toInt ∧ zi20.toInt ≤ 33 := r_lt_x cn51 (b_all zi20) bc_34 (by decide) (by decide)
        refine lv_aload_n hx hb dX12_unit_64 rfl (lv_at hl 0 rfl) ?_
        refine lv_bipush (v := 23) hx hb dX12_unit_65 (by decide) ?_
        refine kq_i hw hS hA (va_runV (As := [.int 23]) (rest := []) ⟨hx, hb, hml, hown, hT⟩ (cX12_is_0 l G cy ev K ln Ls hW _ hp0 ok0 qa900 23 kd900) (cwV 1 hT (good_V tb_1623 tb_1620 tb_1622 tb_52 tb_122) rfl rfl rfl (by decide +kernel) ⟨Nat.le_of_ble_eq_true rfl, Nat.le_of_ble_eq_true rfl⟩) (pool_preV (ci := 12) hK hE hS hA hw hW kd900 (by decide) rfl) rfl rfl hl.1 rfl (lv_room (Nat.le_of_ble_eq_true rfl)) dX12_unit_67 ⟨Nat.le_of_ble_eq_true rfl, Nat.le_of_ble_eq_true rfl⟩) (fun zi57 hp53 H locs hq56 hw hS => ?_)
        obtain ⟨ok54, F55, bd58, hc59, rh60, rh61, rh62⟩ := hq56
        obtain rfl : hp0 = hp53 := (Fr.nil F55).symm
        have hw : PW G cy K ln Ls A hp0 H := hw
        rcases b01 bd58 with cn63 | cn63
        · skip
          subst cn63
          have rh64 := rh62 rfl
          simp only [ge_of eq16 eq10 eq19, gi_of eq4, toi bc_23] at rh64
          refine lv_if_eq (tgt := 110) hx hb dX12_unit_70 (by decide) (fun _ => ?_) (fun c => absurd (d_eq bc_0 bc_0) c)
          refine lv_aload_n hx hb dX12_unit_110 rfl (lv_at hl 0 rfl) ?_
          refine lv_iconst (v := 1) hx hb dX12_unit_111 (by decide) ?_
          refine kq_v hw hS hA (va_runV (As := [.int 1]) (rest := []) ⟨hx, hb, hml, hown, hT⟩ (cX12_fail_0 l G cy ev K ln Ls hW _ hp0 ok0 qa900 1 kd900 (b_wid2 bc_1 (by decide) (by decide))) (cwV 1 hT (good_V tb_1635 tb_1632 tb_1634 tb_55 tb_122) rfl rfl rfl (by decide +kernel) ⟨Nat.le_of_ble_eq_true rfl, Nat.le_of_ble_eq_true rfl⟩) (pool_preV (ci := 12) hK hE hS hA hw hW kd900 (by decide) rfl) rfl rfl hl.1 rfl (lv_room (Nat.le_of_ble_eq_true rfl)) dX12_unit_112 ⟨Nat.le_of_ble_eq_true rfl, Nat.le_of_ble_eq_true rfl⟩) (fun hp65 H locs hq68 hw hS => ?_)
          obtain ⟨ok66, F67, ⟨zi70, eq71, bd72⟩, rh73⟩ := hq68
          have hw : PW G cy K ln Ls A hp65 H := hw
          simp only [gi_of eq4, gi_of eq71] at rh73
          have pd74 : LPx hp65 qa900 := LP_fr ok0 kd900 (Fr.tr (Fr.rf) F67 (by decide)) (by decide) pdLPx
          have eq75 : hp65 qa900 11 = .int zi11 := Eq.trans (Fr.at (cq := 13011) F67 kd900 (cd_o (by decide)) (by decide)) eq10
          have eq76 : hp65 qa900 38 = .int zi2 := Eq.trans (Fr.at (cq := 13038) F67 kd900 (cd_o (by decide)) (by decide)) eq1
          have eq77 : hp65 qa900 19 = .int zi8 := Eq.trans (Fr.at (cq := 13019) F67 kd900 (cd_o (by decide)) (by decide)) eq7
          have eq78 : hp65 qa900 45 = .int zi14 := Eq.trans (Fr.at (cq := 13045) F67 kd900 (cd_o (by decide)) (by decide)) eq13
          rw [hQ]
          exact kz_v hx hb hr hlocks hS hp65 hw ⟨ok66, (Fr.tr (Fr.rf) F67 (by decide)), (pd74), (fun h => absurd h (by rw [gi_of eq71]; omega)), (by simp only [gi_of eq10, gi_of eq4, gi_of eq71, gi_of eq75]; omega), (by simp only [gi_of eq4, gi_of eq71]; omega), (by simp only [gi_of eq10, gi_of eq71, gi_of eq75]; omega), (by simp only [gi_of eq71, gi_of eq75, gi_of eq76, gi_of eq77, gi_of eq78]; omega)⟩ (Nat.le_of_ble_eq_true rfl) (Nat.le_of_ble_eq_true rfl) dX12_unit_115
        · skip
          subst cn63
          obtain ⟨zi79, eq80, bd81⟩ := hc59 rfl
          have hx82 : zi5 = zi79 := Value.int.inj (Eq.trans (Eq.symm eq4) eq80)
          subst hx82
          have bd83 : (0 : Int) ≤ zi5.toInt ∧ zi5.toInt ≤ 0 := b_meet bd50 bd81 (by decide) (by decide)
          have rh84 := rh60 rfl
          simp only [ge_of eq16 eq10 eq19, toi bc_23] at rh84
          have rh85 := rh61 rfl
          simp only [gi_of eq4] at rh85
          refine lv_if_eq (tgt := 110) hx hb dX12_unit_70 (by decide) (fun c => absurd c (d_ne bc_1 bc_0 (by decide))) (fun _ => ?_)
          refine lv_aload_n hx hb dX12_unit_73 rfl (lv_at hl 0 rfl) ?_
          refine lv_iconst (v := 1) hx hb dX12_unit_74 (by decide) ?_
          refine lv_aload_n hx hb dX12_unit_75 rfl (lv_at hl 0 rfl) ?_
          refine lv_bipush (v := 23) hx hb dX12_unit_76 (by decide) ?_
          refine kq_i hw hS hA (va_runV (As := [.int 23]) (rest := [.int 1, .ref qa900]) ⟨hx, hb, hml, hown, hT⟩ (cX12_is_0 l G cy ev K ln Ls hW _ hp0 ok0 qa900 23 kd900) (cwV 1 hT (good_V tb_1623 tb_1620 tb_1622 tb_52 tb_122) rfl rfl rfl (by decide +kernel) ⟨Nat.le_of_ble_eq_true rfl, Nat.le_of_ble_eq_true rfl⟩) (pool_preV (ci := 12) hK hE hS hA hw hW kd900 (by decide) rfl) rfl rfl hl.1 rfl (lv_room (Nat.le_of_ble_eq_true rfl)) dX12_unit_78 ⟨Nat.le_of_ble_eq_true rfl, Nat.le_of_ble_eq_true rfl⟩) (fun zi90 hp86 H locs hq89 hw hS => ?_)
          obtain ⟨ok87, F88, bd91, hc92, rh93, rh94, rh95⟩ := hq89
          obtain rfl : hp0 = hp86 := (Fr.nil F88).symm
          have hw : PW G cy K ln Ls A hp0 H := hw
          rcases b01 bd91 with cn96 | cn96
          · skip
            subst cn96
            have rh97 := rh95 rfl
            simp only [ge_of eq16 eq10 eq19, gi_of eq4, toi bc_23] at rh97
            refine lv_if_eq (tgt := 88) hx hb dX12_unit_81 (by decide) (fun _ => ?_) (fun c => absurd (d_eq bc_0 bc_0) c)
            refine lv_aload_n hx hb dX12_unit_88 rfl (lv_at hl 0 rfl) ?_
            refine p_get (ci := 12) (v := .ref qa17) (C := RX12) (T := TX12) (N := 69) hx hb hT iw_X12 hown hK hw hW kd900 (by decide) rfl rfl 5 (by decide) eq16 (hT _ tb_1379) (fun _ h9 => h9) dX12_unit_89 ?_
            refine lv_aload_n hx hb dX12_unit_92 rfl (lv_at hl 0 rfl) ?_
            refine p_get (ci := 12) (v := .int zi11) (C := RX12) (T := TX12) (N := 69) hx hb hT iw_X12 hown hK hw hW kd900 (by decide) rfl rfl 11 (by decide) eq10 (hT _ tb_1385) (fun _ h9 => h9) dX12_unit_93 ?_
            refine p_iald (v := zi20) hx hb hK hw hW kd18 (by decide) rfl (hW.len kd18 (n := 403) rfl (by decide)) (vp_b bd12 (by decide) (by decide)) eq19 dX12_unit_96 ?_
            refine lv_bipush (v := 34) hx hb dX12_unit_97 (by decide) ?_
            refine lv_isub hx hb dX12_unit_99 (lv_topi (fun zi98 ea99 => ?_))
            refine kq_v hw hS hA (va_runV (As := [.int 1, .int zi98]) (rest := []) ⟨hx, hb, hml, hown, hT⟩ (cX12_emit_0 l G cy ev K ln Ls hW _ hp0 ok0 qa900 1 zi98 kd900 (b_wid2 bc_1 (by decide) (by decide)) (by simp only [gi_of eq1]; omega)) (cwV 2 hT (good_V tb_1711 tb_1708 tb_1710 tb_73 tb_122) rfl rfl rfl (by decide +kernel) ⟨Nat.le_of_ble_eq_true rfl, Nat.le_of_ble_eq_true rfl⟩) (pool_preV (ci := 12) hK hE hS hA hw hW kd900 (by decide) rfl) rfl rfl hl.1 rfl (lv_room (Nat.le_of_ble_eq_true rfl)) dX12_unit_100 ⟨Nat.le_of_ble_eq_true rfl, Nat.le_of_ble_eq_true rfl⟩) (fun hp100 H locs hq103 hw hS => ?_)
            obtain ⟨ok101, F102, ⟨zi105, eq106, bd107⟩, xq108, rh109⟩ := hq103
            have hw : PW G cy K ln Ls A hp100 H := hw
            simp only [gi_of eq1, gi_of eq106] at rh109
            have eq110 : hp0 qa900 38 = .int zi105 := eq106
            have ei111 : EIx hp100 qa900 gc0 1 := EI_unit ok0 kd900 pdEI0 xq108 F102 (by have := toi bc_1; omega)
            have lp112 : LPx hp100 qa900 := LP_emit ok0 kd900 pdLPx xq108 F102 (by rw [gi_of eq110, gi_of eq7]; omega)
            refine lv_aload_n hx hb dX12_unit_103 rfl (lv_at hl 0 rfl) ?_
            have eq113 : hp100 qa900 13 = .int zi5 := Eq.trans (Fr.at (cq := 13013) F102 kd900 (cd_o (by decide)) (by decide)) eq4
            have eq114 : hp100 qa900 11 = .int zi11 := Eq.trans (Fr.at (cq := 13011) F102 kd900 (cd_o (by decide)) (by decide)) eq10
            refine kq_v hw hS hA (va_runV (As := []) (rest := []) ⟨hx, hb, hml, hown, hT⟩ (cX12_goesOn_0 l G cy ev K ln Ls hW _ hp100 ok101 qa900 kd900) (cwV 0 hT (good_V tb_1639 tb_1636 tb_1638 tb_56 tb_122) rfl rfl rfl (by decide +kernel) ⟨Nat.le_of_ble_eq_true rfl, Nat.le_of_ble_eq_true rfl⟩) (pool_preV (ci := 12) hK hE hS hA hw hW kd900 (by decide) rfl) rfl rfl hl.1 rfl (lv_room (Nat.le_of_ble_eq_true rfl)) dX12_unit_104 ⟨Nat.le_of_ble_eq_true rfl, Nat.le_of_ble_eq_true rfl⟩) (fun hp115 H locs hq118 hw hS => ?_)
            obtain ⟨ok116, F117, ⟨zi120, eq121, bd122⟩, rh123, rh124, rh125⟩ := hq118
            have hw : PW G cy K ln Ls A hp115 H := hw
            obtain ⟨zi127, eq126, bd128⟩ := rd_13013 ok116 kd900
            simp only [gi_of eq113, gi_of eq114, gi_of eq121, gi_of eq126] at rh123
            simp only [gi_of eq113, gi_of eq126] at rh124
            simp only [gi_of eq114, gi_of eq121, gi_of eq126] at rh125
            refine lv_goto (tgt := 115) hx hb dX12_unit_107 (by decide) ?_
            have pd129 : LPx hp115 qa900 := LP_fr ok101 kd900 (Fr.tr (Fr.rf) F117 (by decide)) (by decide) lp112
            have pd130 : EIx hp115 qa900 gc0 1 := EI_fr ok101 kd900 (Fr.tr (Fr.rf) F117 (by decide)) (by decide) ei111
            have eq131 : hp115 qa900 38 = .int zi105 := Eq.trans (Fr.at (cq := 13038) F117 kd900 (cd_o (by decide)) (by decide)) eq106
            have eq132 : hp115 qa900 19 = .int zi8 := Eq.trans (Fr.at (cq := 13019) F117 kd900 (cd_o (by decide)) (by decide)) (Eq.trans (Fr.at (cq := 13019) F102 kd900 (cd_o (by decide)) (by decide)) eq7)
            have eq133 : hp115 qa900 45 = .int zi14 := Eq.trans (Fr.at (cq := 13045) F117 kd900 (cd_o (by decide)) (by decide)) (Eq.trans (Fr.at (cq := 13045) F102 kd900 (cd_o (by decide)) (by decide)) eq13)
            rw [hQ]
            exact kz_v hx hb hr hlocks hS hp115 hw ⟨ok116, (Fr.tr (Fr.tr (Fr.rf) F102 (by decide)) F117 (by decide)), (pd129), (fun _ => pd130), (by simp only [gi_of eq10, gi_of eq121, gi_of eq126, gi_of eq4]; omega), (by simp only [gi_of eq126, gi_of eq4]; omega), (by simp only [gi_of eq10, gi_of eq121, gi_of eq126]; omega), (by simp only [gi_of eq121, gi_of eq126, gi_of eq131, gi_of eq132, gi_of eq133]; omega)⟩ (Nat.le_of_ble_eq_true rfl) (Nat.le_of_ble_eq_true rfl) dX12_unit_115
          · skip
            subst cn96
            obtain ⟨zi134, eq135, bd136⟩ := hc92 rfl
            have hx137 : zi5 = zi134 := Value.int.inj (Eq.trans (Eq.symm eq4) eq135)
            subst hx137
            have bd138 : (0 : Int) ≤ zi5.toInt ∧ zi5.toInt ≤ 0 := b_meet bd83 bd136 (by decide) (by decide)
            have rh139 := rh93 rfl
            simp only [ge_of eq16 eq10 eq19, toi bc_23] at rh139
            have rh140 := rh94 rfl
            simp only [gi_of eq4] at rh140
            refine lv_if_eq (tgt := 88) hx hb dX12_unit_81 (by decide) (fun c => absurd c (d_ne bc_1 bc_0 (by decide))) (fun _ => ?_)
            refine lv_iconst (v := 4) hx hb dX12_unit_84 (by decide) ?_
            refine lv_goto (tgt := 100) hx hb dX12_unit_85 (by decide) ?_
            refine kq_v hw hS hA (va_runV (As := [.int 1, .int 4]) (rest := []) ⟨hx, hb, hml, hown, hT⟩ (cX12_emit_0 l G cy ev K ln Ls hW _ hp0 ok0 qa900 1 4 kd900 (b_wid2 bc_1 (by decide) (by decide)) (by simp only [gi_of eq1]; omega)) (cwV 2 hT (good_V tb_1711 tb_1708 tb_1710 tb_73 tb_122) rfl rfl rfl (by decide +kernel) ⟨Nat.le_of_ble_eq_true rfl, Nat.le_of_ble_eq_true rfl⟩) (pool_preV (ci := 12) hK hE hS hA hw hW kd900 (by decide) rfl) rfl rfl hl.1 rfl (lv_room (Nat.le_of_ble_eq_true rfl)) dX12_unit_100 ⟨Nat.le_of_ble_eq_true rfl, Nat.le_of_ble_eq_true rfl⟩) (fun hp141 H locs hq144 hw hS => ?_)
            obtain ⟨ok142, F143, ⟨zi146, eq147, bd148⟩, xq149, rh150⟩ := hq144
            have hw : PW G cy K ln Ls A hp141 H := hw
            simp only [gi_of eq1, gi_of eq147] at rh150
            have eq151 : hp0 qa900 38 = .int zi146 := eq147
            have ei152 : EIx hp141 qa900 gc0 1 := EI_unit ok0 kd900 pdEI0 xq149 F143 (by have := toi bc_1; have := toi bc_4; omega)
            have lp153 : LPx hp141 qa900 := LP_emit ok0 kd900 pdLPx xq149 F143 (by rw [gi_of eq151, gi_of eq7]; omega)
            refine lv_aload_n hx hb dX12_unit_103 rfl (lv_at hl 0 rfl) ?_
            have eq154 : hp141 qa900 13 = .int zi5 := Eq.trans (Fr.at (cq := 13013) F143 kd900 (cd_o (by decide)) (by decide)) eq4
            have eq155 : hp141 qa900 11 = .int zi11 := Eq.trans (Fr.at (cq := 13011) F143 kd900 (cd_o (by decide)) (by decide)) eq10
            refine kq_v hw hS hA (va_runV (As := []) (rest := []) ⟨hx, hb, hml, hown, hT⟩ (cX12_goesOn_0 l G cy ev K ln Ls hW _ hp141 ok142 qa900 kd900) (cwV 0 hT (good_V tb_1639 tb_1636 tb_1638 tb_56 tb_122) rfl rfl rfl (by decide +kernel) ⟨Nat.le_of_ble_eq_true rfl, Nat.le_of_ble_eq_true rfl⟩) (pool_preV (ci := 12) hK hE hS hA hw hW kd900 (by decide) rfl) rfl rfl hl.1 rfl (lv_room (Nat.le_of_ble_eq_true rfl)) dX12_unit_104 ⟨Nat.le_of_ble_eq_true rfl, Nat.le_of_ble_eq_true rfl⟩) (fun hp156 H locs hq159 hw hS => ?_)
            obtain ⟨ok157, F158, ⟨zi161, eq162, bd163⟩, rh164, rh165, rh166⟩ := hq159
            have hw : PW G cy K ln Ls A hp156 H := hw
            obtain ⟨zi168, eq167, bd169⟩ := rd_13013 ok157 kd900
            simp only [gi_of eq154, gi_of eq155, gi_of eq162, gi_of eq167] at rh164
            simp only [gi_of eq154, gi_of eq167] at rh165
            simp only [gi_of eq155, gi_of eq162, gi_of eq167] at rh166
            refine lv_goto (tgt := 115) hx hb dX12_unit_107 (by decide) ?_
            have pd170 : LPx hp156 qa900 := LP_fr ok142 kd900 (Fr.tr (Fr.rf) F158 (by decide)) (by decide) lp153
            have pd171 : EIx hp156 qa900 gc0 1 := EI_fr ok142 kd900 (Fr.tr (Fr.rf) F158 (by decide)) (by decide) ei152
            have eq172 : hp156 qa900 38 = .int zi146 := Eq.trans (Fr.at (cq := 13038) F158 kd900 (cd_o (by decide)) (by decide)) eq147
            have eq173 : hp156 qa900 19 = .int zi8 := Eq.trans (Fr.at (cq := 13019) F158 kd900 (cd_o (by decide)) (by decide)) (Eq.trans (Fr.at (cq := 13019) F143 kd900 (cd_o (by decide)) (by decide)) eq7)
            have eq174 : hp156 qa900 45 = .int zi14 := Eq.trans (Fr.at (cq := 13045) F158 kd900 (cd_o (by decide)) (by decide)) (Eq.trans (Fr.at (cq := 13045) F143 kd900 (cd_o (by decide)) (by decide)) eq13)
            rw [hQ]
            exact kz_v hx hb hr hlocks hS hp156 hw ⟨ok157, (Fr.tr (Fr.tr (Fr.rf) F143 (by decide)) F158 (by decide)), (pd170), (fun _ => pd171), (by simp only [gi_of eq10, gi_of eq162, gi_of eq167, gi_of eq4]; omega), (by simp only [gi_of eq167, gi_of eq4]; omega), (by simp only [gi_of eq10, gi_of eq162, gi_of eq167]; omega), (by simp only [gi_of eq162, gi_of eq167, gi_of eq172, gi_of eq173, gi_of eq174]; omega)⟩ (Nat.le_of_ble_eq_true rfl) (Nat.le_of_ble_eq_true rfl) dX12_unit_115
      · skip
        have bd175 : (34 : Int) ≤ zi20.toInt ∧ zi20.toInt ≤ 2147483647 := r_le_y (Int32.not_lt.mp cn51) bc_34 (b_all zi20) (by decide) (by decide)
        refine lv_aload_n hx hb dX12_unit_50 rfl (lv_at hl 0 rfl) ?_
        refine p_get (ci := 12) (v := .ref qa17) (C := RX12) (T := TX12) (N := 69) hx hb hT iw_X12 hown hK hw hW kd900 (by decide) rfl rfl 5 (by decide) eq16 (hT _ tb_1379) (fun _ h9 => h9) dX12_unit_51 ?_
        refine lv_aload_n hx hb dX12_unit_54 rfl (lv_at hl 0 rfl) ?_
        refine p_get (ci := 12) (v := .int zi11) (C := RX12) (T := TX12) (N := 69) hx hb hT iw_X12 hown hK hw hW kd900 (by decide) rfl rfl 11 (by decide) eq10 (hT _ tb_1385) (fun _ h9 => h9) dX12_unit_55 ?_
        refine p_iald (v := zi20) hx hb hK hw hW kd18 (by decide) rfl (hW.len kd18 (n := 403) rfl (by decide)) (vp_b bd12 (by decide) (by decide)) eq19 dX12_unit_58 ?_
        refine lv_bipush (v := 37) hx hb dX12_unit_59 (by decide) ?_
        refine lv_icmp_le (tgt := 73) hx hb dX12_unit_61 (by decide) (fun cn176 => ?_) (fun cn176 => ?_)
        · skip
          have bd177 : (34 : Int) ≤ zi20.toInt ∧ zi20.toInt ≤ 37 := r_le_x cn176 bd175 bc_37 (by decide) (by decide)
          refine lv_aload_n hx hb dX12_unit_73 rfl (lv_at hl 0 rfl) ?_
          refine lv_iconst (v := 1) hx hb dX12_unit_74 (by decide) ?_
          refine lv_aload_n hx hb dX12_unit_75 rfl (lv_at hl 0 rfl) ?_
          refine lv_bipush (v := 23) hx hb dX12_unit_76 (by decide) ?_
          refine kq_i hw hS hA (va_runV (As := [.int 23]) (rest := [.int 1, .ref qa900]) ⟨hx, hb, hml, hown, hT⟩ (cX12_is_0 l G cy ev K ln Ls hW _ hp0 ok0 qa900 23 kd900) (cwV 1 hT (good_V tb_1623 tb_1620 tb_1622 tb_52 tb_122) rfl rfl rfl (by decide +kernel) ⟨Nat.le_of_ble_eq_true rfl, Nat.le_of_ble_eq_true rfl⟩) (pool_preV (ci := 12) hK hE hS hA hw hW kd900 (by decide) rfl) rfl rfl hl.1 rfl (lv_room (Nat.le_of_ble_eq_true rfl)) dX12_unit_78 ⟨Nat.le_of_ble_eq_true rfl, Nat.le_of_ble_eq_true rfl⟩) (fun zi182 hp178 H locs hq181 hw hS => ?_)
          obtain ⟨ok179, F180, bd183, hc184, rh185, rh186, rh187⟩ := hq181
          obtain rfl : hp0 = hp178 := (Fr.nil F180).symm
          have hw : PW G cy K ln Ls A hp0 H := hw
          rcases b01 bd183 with cn188 | cn188
          · skip
            subst cn188
            have rh189 := rh187 rfl
            simp only [ge_of eq16 eq10 eq19, gi_of eq4, toi bc_23] at rh189
            refine lv_if_eq (tgt := 88) hx hb dX12_unit_81 (by decide) (fun _ => ?_) (fun c => absurd (d_eq bc_0 bc_0) c)
            refine lv_aload_n hx hb dX12_unit_88 rfl (lv_at hl 0 rfl) ?_
            refine p_get (ci := 12) (v := .ref qa17) (C := RX12) (T := TX12) (N := 69) hx hb hT iw_X12 hown hK hw hW kd900 (by decide) rfl rfl 5 (by decide) eq16 (hT _ tb_1379) (fun _ h9 => h9) dX12_unit_89 ?_
            refine lv_aload_n hx hb dX12_unit_92 rfl (lv_at hl 0 rfl) ?_
            refine p_get (ci := 12) (v := .int zi11) (C := RX12) (T := TX12) (N := 69) hx hb hT iw_X12 hown hK hw hW kd900 (by decide) rfl rfl 11 (by decide) eq10 (hT _ tb_1385) (fun _ h9 => h9) dX12_unit_93 ?_
            refine p_iald (v := zi20) hx hb hK hw hW kd18 (by decide) rfl (hW.len kd18 (n := 403) rfl (by decide)) (vp_b bd12 (by decide) (by decide)) eq19 dX12_unit_96 ?_
            refine lv_bipush (v := 34) hx hb dX12_unit_97 (by decide) ?_
            refine lv_isub hx hb dX12_unit_99 (lv_topi (fun zi190 ea191 => ?_))
            have bd192 : (0 : Int) ≤ zi190.toInt ∧ zi190.toInt ≤ 3 := b_isub ea191 bd177 bc_34 (by decide) (by decide) (by decide) (by decide)
            have qe193 : zi190.toInt = (zi20 : Int32).toInt - (34 : Int32).toInt := e_isub ea191 bd177 bc_34 (by decide) (by decide)
            have qe194 : zi190.toInt = zi20.toInt - 34 := by have ha : (34 : Int32).toInt = 34 := (by decide); rw [ha] at qe193; exact qe193
            refine kq_v hw hS hA (va_runV (As := [.int 1, .int zi190]) (rest := []) ⟨hx, hb, hml, hown, hT⟩ (cX12_emit_0 l G cy ev K ln Ls hW _ hp0 ok0 qa900 1 zi190 kd900 (b_wid2 bc_1 (by decide) (by decide)) (by simp only [gi_of eq1]; omega)) (cwV 2 hT (good_V tb_1711 tb_1708 tb_1710 tb_73 tb_122) rfl rfl rfl (by decide +kernel) ⟨Nat.le_of_ble_eq_true rfl, Nat.le_of_ble_eq_true rfl⟩) (pool_preV (ci := 12) hK hE hS hA hw hW kd900 (by decide) rfl) rfl rfl hl.1 rfl (lv_room (Nat.le_of_ble_eq_true rfl)) dX12_unit_100 ⟨Nat.le_of_ble_eq_true rfl, Nat.le_of_ble_eq_true rfl⟩) (fun hp195 H locs hq198 hw hS => ?_)
            obtain ⟨ok196, F197, ⟨zi200, eq201, bd202⟩, xq203, rh204⟩ := hq198
            have hw : PW G cy K ln Ls A hp195 H := hw
            simp only [gi_of eq1, gi_of eq201] at rh204
            have eq205 : hp0 qa900 38 = .int zi200 := eq201
            have ei206 : EIx hp195 qa900 gc0 1 := EI_unit ok0 kd900 pdEI0 xq203 F197 (by have := toi bc_1; omega)
            have lp207 : LPx hp195 qa900 := LP_emit ok0 kd900 pdLPx xq203 F197 (by rw [gi_of eq205, gi_of eq7]; omega)
            refine lv_aload_n hx hb dX12_unit_103 rfl (lv_at hl 0 rfl) ?_
            have eq208 : hp195 qa900 13 = .int zi5 := Eq.trans (Fr.at (cq := 13013) F197 kd900 (cd_o (by decide)) (by decide)) eq4
            have eq209 : hp195 qa900 11 = .int zi11 := Eq.trans (Fr.at (cq := 13011) F197 kd900 (cd_o (by decide)) (by decide)) eq10
            refine kq_v hw hS hA (va_runV (As := []) (rest := []) ⟨hx, hb, hml, hown, hT⟩ (cX12_goesOn_0 l G cy ev K ln Ls hW _ hp195 ok196 qa900 kd900) (cwV 0 hT (good_V tb_1639 tb_1636 tb_1638 tb_56 tb_122) rfl rfl rfl (by decide +kernel) ⟨Nat.le_of_ble_eq_true rfl, Nat.le_of_ble_eq_true rfl⟩) (pool_preV (ci := 12) hK hE hS hA hw hW kd900 (by decide) rfl) rfl rfl hl.1 rfl (lv_room (Nat.le_of_ble_eq_true rfl)) dX12_unit_104 ⟨Nat.le_of_ble_eq_true rfl, Nat.le_of_ble_eq_true rfl⟩) (fun hp210 H locs hq213 hw hS => ?_)
            obtain ⟨ok211, F212, ⟨zi215, eq216, bd217⟩, rh218, rh219, rh220⟩ := hq213
            have hw : PW G cy K ln Ls A hp210 H := hw
            obtain ⟨zi222, eq221, bd223⟩ := rd_13013 ok211 kd900
            simp only [gi_of eq208, gi_of eq209, gi_of eq216, gi_of eq221] at rh218
            simp only [gi_of eq208, gi_of eq221] at rh219
            simp only [gi_of eq209, gi_of eq216, gi_of eq221] at rh220
            refine lv_goto (tgt := 115) hx hb dX12_unit_107 (by decide) ?_
            have pd224 : LPx hp210 qa900 := LP_fr ok196 kd900 (Fr.tr (Fr.rf) F212 (by decide)) (by decide) lp207
            have pd225 : EIx hp210 qa900 gc0 1 := EI_fr ok196 kd900 (Fr.tr (Fr.rf) F212 (by decide)) (by decide) ei206
            have eq226 : hp210 qa900 38 = .int zi200 := Eq.trans (Fr.at (cq := 13038) F212 kd900 (cd_o (by decide)) (by decide)) eq201
            have eq227 : hp210 qa900 19 = .int zi8 := Eq.trans (Fr.at (cq := 13019) F212 kd900 (cd_o (by decide)) (by decide)) (Eq.trans (Fr.at (cq := 13019) F197 kd900 (cd_o (by decide)) (by decide)) eq7)
            have eq228 : hp210 qa900 45 = .int zi14 := Eq.trans (Fr.at (cq := 13045) F212 kd900 (cd_o (by decide)) (by decide)) (Eq.trans (Fr.at (cq := 13045) F197 kd900 (cd_o (by decide)) (by decide)) eq13)
            rw [hQ]
            exact kz_v hx hb hr hlocks hS hp210 hw ⟨ok211, (Fr.tr (Fr.tr (Fr.rf) F197 (by decide)) F212 (by decide)), (pd224), (fun _ => pd225), (by simp only [gi_of eq10, gi_of eq216, gi_of eq221, gi_of eq4]; omega), (by simp only [gi_of eq221, gi_of eq4]; omega), (by simp only [gi_of eq10, gi_of eq216, gi_of eq221]; omega), (by simp only [gi_of eq216, gi_of eq221, gi_of eq226, gi_of eq227, gi_of eq228]; omega)⟩ (Nat.le_of_ble_eq_true rfl) (Nat.le_of_ble_eq_true rfl) dX12_unit_115
          · skip
            subst cn188
            obtain ⟨zi229, eq230, bd231⟩ := hc184 rfl
            have hx232 : zi5 = zi229 := Value.int.inj (Eq.trans (Eq.symm eq4) eq230)
            subst hx232
            have bd233 : (0 : Int) ≤ zi5.toInt ∧ zi5.toInt ≤ 0 := b_meet bd50 bd231 (by decide) (by decide)
            have rh234 := rh185 rfl
            simp only [ge_of eq16 eq10 eq19, toi bc_23] at rh234
            have rh235 := rh186 rfl
            simp only [gi_of eq4] at rh235
            refine lv_if_eq (tgt := 88) hx hb dX12_unit_81 (by decide) (fun c => absurd c (d_ne bc_1 bc_0 (by decide))) (fun _ => ?_)
            refine lv_iconst (v := 4) hx hb dX12_unit_84 (by decide) ?_
            refine lv_goto (tgt := 100) hx hb dX12_unit_85 (by decide) ?_
            refine kq_v hw hS hA (va_runV (As := [.int 1, .int 4]) (rest := []) ⟨hx, hb, hml, hown, hT⟩ (cX12_emit_0 l G cy ev K ln Ls hW _ hp0 ok0 qa900 1 4 kd900 (b_wid2 bc_1 (by decide) (by decide)) (by simp only [gi_of eq1]; omega)) (cwV 2 hT (good_V tb_1711 tb_1708 tb_1710 tb_73 tb_122) rfl rfl rfl (by decide +kernel) ⟨Nat.le_of_ble_eq_true rfl, Nat.le_of_ble_eq_true rfl⟩) (pool_preV (ci := 12) hK hE hS hA hw hW kd900 (by decide) rfl) rfl rfl hl.1 rfl (lv_room (Nat.le_of_ble_eq_true rfl)) dX12_unit_100 ⟨Nat.le_of_ble_eq_true rfl, Nat.le_of_ble_eq_true rfl⟩) (fun hp236 H locs hq239 hw hS => ?_)
            obtain ⟨ok237, F238, ⟨zi241, eq242, bd243⟩, xq244, rh245⟩ := hq239
            have hw : PW G cy K ln Ls A hp236 H := hw
            simp only [gi_of eq1, gi_of eq242] at rh245
            have eq246 : hp0 qa900 38 = .int zi241 := eq242
            have ei247 : EIx hp236 qa900 gc0 1 := EI_unit ok0 kd900 pdEI0 xq244 F238 (by have := toi bc_1; have := toi bc_4; omega)
            have lp248 : LPx hp236 qa900 := LP_emit ok0 kd900 pdLPx xq244 F238 (by rw [gi_of eq246, gi_of eq7]; omega)
            refine lv_aload_n hx hb dX12_unit_103 rfl (lv_at hl 0 rfl) ?_
            have eq249 : hp236 qa900 13 = .int zi5 := Eq.trans (Fr.at (cq := 13013) F238 kd900 (cd_o (by decide)) (by decide)) eq4
            have eq250 : hp236 qa900 11 = .int zi11 := Eq.trans (Fr.at (cq := 13011) F238 kd900 (cd_o (by decide)) (by decide)) eq10
            refine kq_v hw hS hA (va_runV (As := []) (rest := []) ⟨hx, hb, hml, hown, hT⟩ (cX12_goesOn_0 l G cy ev K ln Ls hW _ hp236 ok237 qa900 kd900) (cwV 0 hT (good_V tb_1639 tb_1636 tb_1638 tb_56 tb_122) rfl rfl rfl (by decide +kernel) ⟨Nat.le_of_ble_eq_true rfl, Nat.le_of_ble_eq_true rfl⟩) (pool_preV (ci := 12) hK hE hS hA hw hW kd900 (by decide) rfl) rfl rfl hl.1 rfl (lv_room (Nat.le_of_ble_eq_true rfl)) dX12_unit_104 ⟨Nat.le_of_ble_eq_true rfl, Nat.le_of_ble_eq_true rfl⟩) (fun hp251 H locs hq254 hw hS => ?_)
            obtain ⟨ok252, F253, ⟨zi256, eq257, bd258⟩, rh259, rh260, rh261⟩ := hq254
            have hw : PW G cy K ln Ls A hp251 H := hw
            obtain ⟨zi263, eq262, bd264⟩ := rd_13013 ok252 kd900
            simp only [gi_of eq249, gi_of eq250, gi_of eq257, gi_of eq262] at rh259
            simp only [gi_of eq249, gi_of eq262] at rh260
            simp only [gi_of eq250, gi_of eq257, gi_of eq262] at rh261
            refine lv_goto (tgt := 115) hx hb dX12_unit_107 (by decide) ?_
            have pd265 : LPx hp251 qa900 := LP_fr ok237 kd900 (Fr.tr (Fr.rf) F253 (by decide)) (by decide) lp248
            have pd266 : EIx hp251 qa900 gc0 1 := EI_fr ok237 kd900 (Fr.tr (Fr.rf) F253 (by decide)) (by decide) ei247
            have eq267 : hp251 qa900 38 = .int zi241 := Eq.trans (Fr.at (cq := 13038) F253 kd900 (cd_o (by decide)) (by decide)) eq242
            have eq268 : hp251 qa900 19 = .int zi8 := Eq.trans (Fr.at (cq := 13019) F253 kd900 (cd_o (by decide)) (by decide)) (Eq.trans (Fr.at (cq := 13019) F238 kd900 (cd_o (by decide)) (by decide)) eq7)
            have eq269 : hp251 qa900 45 = .int zi14 := Eq.trans (Fr.at (cq := 13045) F253 kd900 (cd_o (by decide)) (by decide)) (Eq.trans (Fr.at (cq := 13045) F238 kd900 (cd_o (by decide)) (by decide)) eq13)
            rw [hQ]
            exact kz_v hx hb hr hlocks hS hp251 hw ⟨ok252, (Fr.tr (Fr.tr (Fr.rf) F238 (by decide)) F253 (by decide)), (pd265), (fun _ => pd266), (by simp only [gi_of eq10, gi_of eq257, gi_of eq262, gi_of eq4]; omega), (by simp only [gi_of eq262, gi_of eq4]; omega), (by simp only [gi_of eq10, gi_of eq257, gi_of eq262]; omega), (by simp only [gi_of eq257, gi_of eq262, gi_of eq267, gi_of eq268, gi_of eq269]; omega)⟩ (Nat.le_of_ble_eq_true rfl) (Nat.le_of_ble_eq_true rfl) dX12_unit_115
        · skip
          have bd270 : (38 : Int) ≤ zi20.toInt ∧ zi20.toInt ≤ 2147483647 := r_lt_y (Int32.not_le.mp cn176) bc_37 bd175 (by decide) (by decide)
          refine lv_aload_n hx hb dX12_unit_64 rfl (lv_at hl 0 rfl) ?_
          refine lv_bipush (v := 23) hx hb dX12_unit_65 (by decide) ?_
          refine kq_i hw hS hA (va_runV (As := [.int 23]) (rest := []) ⟨hx, hb, hml, hown, hT⟩ (cX12_is_0 l G cy ev K ln Ls hW _ hp0 ok0 qa900 23 kd900) (cwV 1 hT (good_V tb_1623 tb_1620 tb_1622 tb_52 tb_122) rfl rfl rfl (by decide +kernel) ⟨Nat.le_of_ble_eq_true rfl, Nat.le_of_ble_eq_true rfl⟩) (pool_preV (ci := 12) hK hE hS hA hw hW kd900 (by decide) rfl) rfl rfl hl.1 rfl (lv_room (Nat.le_of_ble_eq_true rfl)) dX12_unit_67 ⟨Nat.le_of_ble_eq_true rfl, Nat.le_of_ble_eq_true rfl⟩) (fun zi275 hp271 H locs hq274 hw hS => ?_)
          obtain ⟨ok272, F273, bd276, hc277, rh278, rh279, rh280⟩ := hq274
          obtain rfl : hp0 = hp271 := (Fr.nil F273).symm
          have hw : PW G cy K ln Ls A hp0 H := hw
          rcases b01 bd276 with cn281 | cn281
          · skip
            subst cn281
            have rh282 := rh280 rfl
            simp only [ge_of eq16 eq10 eq19, gi_of eq4, toi bc_23] at rh282
            refine lv_if_eq (tgt := 110) hx hb dX12_unit_70 (by decide) (fun _ => ?_) (fun c => absurd (d_eq bc_0 bc_0) c)
            refine lv_aload_n hx hb dX12_unit_110 rfl (lv_at hl 0 rfl) ?_
            refine lv_iconst (v := 1) hx hb dX12_unit_111 (by decide) ?_
            refine kq_v hw hS hA (va_runV (As := [.int 1]) (rest := []) ⟨hx, hb, hml, hown, hT⟩ (cX12_fail_0 l G cy ev K ln Ls hW _ hp0 ok0 qa900 1 kd900 (b_wid2 bc_1 (by decide) (by decide))) (cwV 1 hT (good_V tb_1635 tb_1632 tb_1634 tb_55 tb_122) rfl rfl rfl (by decide +kernel) ⟨Nat.le_of_ble_eq_true rfl, Nat.le_of_ble_eq_true rfl⟩) (pool_preV (ci := 12) hK hE hS hA hw hW kd900 (by decide) rfl) rfl rfl hl.1 rfl (lv_room (Nat.le_of_ble_eq_true rfl)) dX12_unit_112 ⟨Nat.le_of_ble_eq_true rfl, Nat.le_of_ble_eq_true rfl⟩) (fun hp283 H locs hq286 hw hS => ?_)
            obtain ⟨ok284, F285, ⟨zi288, eq289, bd290⟩, rh291⟩ := hq286
            have hw : PW G cy K ln Ls A hp283 H := hw
            simp only [gi_of eq289, gi_of eq4] at rh291
            have pd292 : LPx hp283 qa900 := LP_fr ok0 kd900 (Fr.tr (Fr.rf) F285 (by decide)) (by decide) pdLPx
            have eq293 : hp283 qa900 11 = .int zi11 := Eq.trans (Fr.at (cq := 13011) F285 kd900 (cd_o (by decide)) (by decide)) eq10
            have eq294 : hp283 qa900 38 = .int zi2 := Eq.trans (Fr.at (cq := 13038) F285 kd900 (cd_o (by decide)) (by decide)) eq1
            have eq295 : hp283 qa900 19 = .int zi8 := Eq.trans (Fr.at (cq := 13019) F285 kd900 (cd_o (by decide)) (by decide)) eq7
            have eq296 : hp283 qa900 45 = .int zi14 := Eq.trans (Fr.at (cq := 13045) F285 kd900 (cd_o (by decide)) (by decide)) eq13
            rw [hQ]
            exact kz_v hx hb hr hlocks hS hp283 hw ⟨ok284, (Fr.tr (Fr.rf) F285 (by decide)), (pd292), (fun h => absurd h (by rw [gi_of eq289]; omega)), (by simp only [gi_of eq10, gi_of eq289, gi_of eq293, gi_of eq4]; omega), (by simp only [gi_of eq289, gi_of eq4]; omega), (by simp only [gi_of eq10, gi_of eq289, gi_of eq293]; omega), (by simp only [gi_of eq289, gi_of eq293, gi_of eq294, gi_of eq295, gi_of eq296]; omega)⟩ (Nat.le_of_ble_eq_true rfl) (Nat.le_of_ble_eq_true rfl) dX12_unit_115
          · skip
            subst cn281
            obtain ⟨zi297, eq298, bd299⟩ := hc277 rfl
            have hx300 : zi5 = zi297 := Value.int.inj (Eq.trans (Eq.symm eq4) eq298)
            subst hx300
            have bd301 : (0 : Int) ≤ zi5.toInt ∧ zi5.toInt ≤ 0 := b_meet bd50 bd299 (by decide) (by decide)
            have rh302 := rh278 rfl
            simp only [ge_of eq16 eq10 eq19, toi bc_23] at rh302
            have rh303 := rh279 rfl
            simp only [gi_of eq4] at rh303
            refine lv_if_eq (tgt := 110) hx hb dX12_unit_70 (by decide) (fun c => absurd c (d_ne bc_1 bc_0 (by decide))) (fun _ => ?_)
            refine lv_aload_n hx hb dX12_unit_73 rfl (lv_at hl 0 rfl) ?_
            refine lv_iconst (v := 1) hx hb dX12_unit_74 (by decide) ?_
            refine lv_aload_n hx hb dX12_unit_75 rfl (lv_at hl 0 rfl) ?_
            refine lv_bipush (v := 23) hx hb dX12_unit_76 (by decide) ?_
            refine kq_i hw hS hA (va_runV (As := [.int 23]) (rest := [.int 1, .ref qa900]) ⟨hx, hb, hml, hown, hT⟩ (cX12_is_0 l G cy ev K ln Ls hW _ hp0 ok0 qa900 23 kd900) (cwV 1 hT (good_V tb_1623 tb_1620 tb_1622 tb_52 tb_122) rfl rfl rfl (by decide +kernel) ⟨Nat.le_of_ble_eq_true rfl, Nat.le_of_ble_eq_true rfl⟩) (pool_preV (ci := 12) hK hE hS hA hw hW kd900 (by decide) rfl) rfl rfl hl.1 rfl (lv_room (Nat.le_of_ble_eq_true rfl)) dX12_unit_78 ⟨Nat.le_of_ble_eq_true rfl, Nat.le_of_ble_eq_true rfl⟩) (fun zi308 hp304 H locs hq307 hw hS => ?_)
            obtain ⟨ok305, F306, bd309, hc310, rh311, rh312, rh313⟩ := hq307
            obtain rfl : hp0 = hp304 := (Fr.nil F306).symm
            have hw : PW G cy K ln Ls A hp0 H := hw
            rcases b01 bd309 with cn314 | cn314
            · skip
              subst cn314
              have rh315 := rh313 rfl
              simp only [ge_of eq16 eq10 eq19, gi_of eq4, toi bc_23] at rh315
              refine lv_if_eq (tgt := 88) hx hb dX12_unit_81 (by decide) (fun _ => ?_) (fun c => absurd (d_eq bc_0 bc_0) c)
              refine lv_aload_n hx hb dX12_unit_88 rfl (lv_at hl 0 rfl) ?_
              refine p_get (ci := 12) (v := .ref qa17) (C := RX12) (T := TX12) (N := 69) hx hb hT iw_X12 hown hK hw hW kd900 (by decide) rfl rfl 5 (by decide) eq16 (hT _ tb_1379) (fun _ h9 => h9) dX12_unit_89 ?_
              refine lv_aload_n hx hb dX12_unit_92 rfl (lv_at hl 0 rfl) ?_
              refine p_get (ci := 12) (v := .int zi11) (C := RX12) (T := TX12) (N := 69) hx hb hT iw_X12 hown hK hw hW kd900 (by decide) rfl rfl 11 (by decide) eq10 (hT _ tb_1385) (fun _ h9 => h9) dX12_unit_93 ?_
              refine p_iald (v := zi20) hx hb hK hw hW kd18 (by decide) rfl (hW.len kd18 (n := 403) rfl (by decide)) (vp_b bd12 (by decide) (by decide)) eq19 dX12_unit_96 ?_
              refine lv_bipush (v := 34) hx hb dX12_unit_97 (by decide) ?_
              refine lv_isub hx hb dX12_unit_99 (lv_topi (fun zi316 ea317 => ?_))
              have bd318 : (4 : Int) ≤ zi316.toInt ∧ zi316.toInt ≤ 2147483613 := b_isub ea317 bd270 bc_34 (by decide) (by decide) (by decide) (by decide)
              have qe319 : zi316.toInt = (zi20 : Int32).toInt - (34 : Int32).toInt := e_isub ea317 bd270 bc_34 (by decide) (by decide)
              have qe320 : zi316.toInt = zi20.toInt - 34 := by have ha : (34 : Int32).toInt = 34 := (by decide); rw [ha] at qe319; exact qe319
              refine kq_v hw hS hA (va_runV (As := [.int 1, .int zi316]) (rest := []) ⟨hx, hb, hml, hown, hT⟩ (cX12_emit_0 l G cy ev K ln Ls hW _ hp0 ok0 qa900 1 zi316 kd900 (b_wid2 bc_1 (by decide) (by decide)) (by simp only [gi_of eq1]; omega)) (cwV 2 hT (good_V tb_1711 tb_1708 tb_1710 tb_73 tb_122) rfl rfl rfl (by decide +kernel) ⟨Nat.le_of_ble_eq_true rfl, Nat.le_of_ble_eq_true rfl⟩) (pool_preV (ci := 12) hK hE hS hA hw hW kd900 (by decide) rfl) rfl rfl hl.1 rfl (lv_room (Nat.le_of_ble_eq_true rfl)) dX12_unit_100 ⟨Nat.le_of_ble_eq_true rfl, Nat.le_of_ble_eq_true rfl⟩) (fun hp321 H locs hq324 hw hS => ?_)
              obtain ⟨ok322, F323, ⟨zi326, eq327, bd328⟩, xq329, rh330⟩ := hq324
              have hw : PW G cy K ln Ls A hp321 H := hw
              simp only [gi_of eq1, gi_of eq327] at rh330
              have eq331 : hp0 qa900 38 = .int zi326 := eq327
              have ei332 : EIx hp321 qa900 gc0 1 := EI_unit ok0 kd900 pdEI0 xq329 F323 (by have := toi bc_1; omega)
              have lp333 : LPx hp321 qa900 := LP_emit ok0 kd900 pdLPx xq329 F323 (by rw [gi_of eq331, gi_of eq7]; omega)
              refine lv_aload_n hx hb dX12_unit_103 rfl (lv_at hl 0 rfl) ?_
              have eq334 : hp321 qa900 13 = .int zi5 := Eq.trans (Fr.at (cq := 13013) F323 kd900 (cd_o (by decide)) (by decide)) eq4
              have eq335 : hp321 qa900 11 = .int zi11 := Eq.trans (Fr.at (cq := 13011) F323 kd900 (cd_o (by decide)) (by decide)) eq10
              refine kq_v hw hS hA (va_runV (As := []) (rest := []) ⟨hx, hb, hml, hown, hT⟩ (cX12_goesOn_0 l G cy ev K ln Ls hW _ hp321 ok322 qa900 kd900) (cwV 0 hT (good_V tb_1639 tb_1636 tb_1638 tb_56 tb_122) rfl rfl rfl (by decide +kernel) ⟨Nat.le_of_ble_eq_true rfl, Nat.le_of_ble_eq_true rfl⟩) (pool_preV (ci := 12) hK hE hS hA hw hW kd900 (by decide) rfl) rfl rfl hl.1 rfl (lv_room (Nat.le_of_ble_eq_true rfl)) dX12_unit_104 ⟨Nat.le_of_ble_eq_true rfl, Nat.le_of_ble_eq_true rfl⟩) (fun hp336 H locs hq339 hw hS => ?_)
              obtain ⟨ok337, F338, ⟨zi341, eq342, bd343⟩, rh344, rh345, rh346⟩ := hq339
              have hw : PW G cy K ln Ls A hp336 H := hw
              obtain ⟨zi348, eq347, bd349⟩ := rd_13013 ok337 kd900
              simp only [gi_of eq334, gi_of eq335, gi_of eq342, gi_of eq347] at rh344
              simp only [gi_of eq334, gi_of eq347] at rh345
              simp only [gi_of eq335, gi_of eq342, gi_of eq347] at rh346
              refine lv_goto (tgt := 115) hx hb dX12_unit_107 (by decide) ?_
              have pd350 : LPx hp336 qa900 := LP_fr ok322 kd900 (Fr.tr (Fr.rf) F338 (by decide)) (by decide) lp333
              have pd351 : EIx hp336 qa900 gc0 1 := EI_fr ok322 kd900 (Fr.tr (Fr.rf) F338 (by decide)) (by decide) ei332
              have eq352 : hp336 qa900 38 = .int zi326 := Eq.trans (Fr.at (cq := 13038) F338 kd900 (cd_o (by decide)) (by decide)) eq327
              have eq353 : hp336 qa900 19 = .int zi8 := Eq.trans (Fr.at (cq := 13019) F338 kd900 (cd_o (by decide)) (by decide)) (Eq.trans (Fr.at (cq := 13019) F323 kd900 (cd_o (by decide)) (by decide)) eq7)
              have eq354 : hp336 qa900 45 = .int zi14 := Eq.trans (Fr.at (cq := 13045) F338 kd900 (cd_o (by decide)) (by decide)) (Eq.trans (Fr.at (cq := 13045) F323 kd900 (cd_o (by decide)) (by decide)) eq13)
              rw [hQ]
              exact kz_v hx hb hr hlocks hS hp336 hw ⟨ok337, (Fr.tr (Fr.tr (Fr.rf) F323 (by decide)) F338 (by decide)), (pd350), (fun _ => pd351), (by simp only [gi_of eq10, gi_of eq342, gi_of eq347, gi_of eq4]; omega), (by simp only [gi_of eq347, gi_of eq4]; omega), (by simp only [gi_of eq10, gi_of eq342, gi_of eq347]; omega), (by simp only [gi_of eq342, gi_of eq347, gi_of eq352, gi_of eq353, gi_of eq354]; omega)⟩ (Nat.le_of_ble_eq_true rfl) (Nat.le_of_ble_eq_true rfl) dX12_unit_115
            · skip
              subst cn314
              obtain ⟨zi355, eq356, bd357⟩ := hc310 rfl
              have hx358 : zi5 = zi355 := Value.int.inj (Eq.trans (Eq.symm eq4) eq356)
              subst hx358
              have bd359 : (0 : Int) ≤ zi5.toInt ∧ zi5.toInt ≤ 0 := b_meet bd301 bd357 (by decide) (by decide)
              have rh360 := rh311 rfl
              simp only [ge_of eq16 eq10 eq19, toi bc_23] at rh360
              have rh361 := rh312 rfl
              simp only [gi_of eq4] at rh361
              refine lv_if_eq (tgt := 88) hx hb dX12_unit_81 (by decide) (fun c => absurd c (d_ne bc_1 bc_0 (by decide))) (fun _ => ?_)
              refine lv_iconst (v := 4) hx hb dX12_unit_84 (by decide) ?_
              refine lv_goto (tgt := 100) hx hb dX12_unit_85 (by decide) ?_
              refine kq_v hw hS hA (va_runV (As := [.int 1, .int 4]) (rest := []) ⟨hx, hb, hml, hown, hT⟩ (cX12_emit_0 l G cy ev K ln Ls hW _ hp0 ok0 qa900 1 4 kd900 (b_wid2 bc_1 (by decide) (by decide)) (by simp only [gi_of eq1]; omega)) (cwV 2 hT (good_V tb_1711 tb_1708 tb_1710 tb_73 tb_122) rfl rfl rfl (by decide +kernel) ⟨Nat.le_of_ble_eq_true rfl, Nat.le_of_ble_eq_true rfl⟩) (pool_preV (ci := 12) hK hE hS hA hw hW kd900 (by decide) rfl) rfl rfl hl.1 rfl (lv_room (Nat.le_of_ble_eq_true rfl)) dX12_unit_100 ⟨Nat.le_of_ble_eq_true rfl, Nat.le_of_ble_eq_true rfl⟩) (fun hp362 H locs hq365 hw hS => ?_)
              obtain ⟨ok363, F364, ⟨zi367, eq368, bd369⟩, xq370, rh371⟩ := hq365
              have hw : PW G cy K ln Ls A hp362 H := hw
              simp only [gi_of eq1, gi_of eq368] at rh371
              have eq372 : hp0 qa900 38 = .int zi367 := eq368
              have ei373 : EIx hp362 qa900 gc0 1 := EI_unit ok0 kd900 pdEI0 xq370 F364 (by have := toi bc_1; have := toi bc_4; omega)
              have lp374 : LPx hp362 qa900 := LP_emit ok0 kd900 pdLPx xq370 F364 (by rw [gi_of eq372, gi_of eq7]; omega)
              refine lv_aload_n hx hb dX12_unit_103 rfl (lv_at hl 0 rfl) ?_
              have eq375 : hp362 qa900 13 = .int zi5 := Eq.trans (Fr.at (cq := 13013) F364 kd900 (cd_o (by decide)) (by decide)) eq4
              have eq376 : hp362 qa900 11 = .int zi11 := Eq.trans (Fr.at (cq := 13011) F364 kd900 (cd_o (by decide)) (by decide)) eq10
              refine kq_v hw hS hA (va_runV (As := []) (rest := []) ⟨hx, hb, hml, hown, hT⟩ (cX12_goesOn_0 l G cy ev K ln Ls hW _ hp362 ok363 qa900 kd900) (cwV 0 hT (good_V tb_1639 tb_1636 tb_1638 tb_56 tb_122) rfl rfl rfl (by decide +kernel) ⟨Nat.le_of_ble_eq_true rfl, Nat.le_of_ble_eq_true rfl⟩) (pool_preV (ci := 12) hK hE hS hA hw hW kd900 (by decide) rfl) rfl rfl hl.1 rfl (lv_room (Nat.le_of_ble_eq_true rfl)) dX12_unit_104 ⟨Nat.le_of_ble_eq_true rfl, Nat.le_of_ble_eq_true rfl⟩) (fun hp377 H locs hq380 hw hS => ?_)
              obtain ⟨ok378, F379, ⟨zi382, eq383, bd384⟩, rh385, rh386, rh387⟩ := hq380
              have hw : PW G cy K ln Ls A hp377 H := hw
              obtain ⟨zi389, eq388, bd390⟩ := rd_13013 ok378 kd900
              simp only [gi_of eq375, gi_of eq376, gi_of eq383, gi_of eq388] at rh385
              simp only [gi_of eq375, gi_of eq388] at rh386
              simp only [gi_of eq376, gi_of eq383, gi_of eq388] at rh387
              refine lv_goto (tgt := 115) hx hb dX12_unit_107 (by decide) ?_
              have pd391 : LPx hp377 qa900 := LP_fr ok363 kd900 (Fr.tr (Fr.rf) F379 (by decide)) (by decide) lp374
              have pd392 : EIx hp377 qa900 gc0 1 := EI_fr ok363 kd900 (Fr.tr (Fr.rf) F379 (by decide)) (by decide) ei373
              have eq393 : hp377 qa900 38 = .int zi367 := Eq.trans (Fr.at (cq := 13038) F379 kd900 (cd_o (by decide)) (by decide)) eq368
              have eq394 : hp377 qa900 19 = .int zi8 := Eq.trans (Fr.at (cq := 13019) F379 kd900 (cd_o (by decide)) (by decide)) (Eq.trans (Fr.at (cq := 13019) F364 kd900 (cd_o (by decide)) (by decide)) eq7)
              have eq395 : hp377 qa900 45 = .int zi14 := Eq.trans (Fr.at (cq := 13045) F379 kd900 (cd_o (by decide)) (by decide)) (Eq.trans (Fr.at (cq := 13045) F364 kd900 (cd_o (by decide)) (by decide)) eq13)
              rw [hQ]
              exact kz_v hx hb hr hlocks hS hp377 hw ⟨ok378, (Fr.tr (Fr.tr (Fr.rf) F364 (by decide)) F379 (by decide)), (pd391), (fun _ => pd392), (by simp only [gi_of eq10, gi_of eq383, gi_of eq388, gi_of eq4]; omega), (by simp only [gi_of eq388, gi_of eq4]; omega), (by simp only [gi_of eq10, gi_of eq383, gi_of eq388]; omega), (by simp only [gi_of eq383, gi_of eq388, gi_of eq393, gi_of eq394, gi_of eq395]; omega)⟩ (Nat.le_of_ble_eq_true rfl) (Nat.le_of_ble_eq_true rfl) dX12_unit_115
  · skip
    subst cn31
    obtain ⟨zi396, eq397, bd398⟩ := hc27 rfl
    have hx399 : zi5 = zi396 := Value.int.inj (Eq.trans (Eq.symm eq4) eq397)
    subst hx399
    have bd400 : (0 : Int) ≤ zi5.toInt ∧ zi5.toInt ≤ 0 := b_meet bd6 bd398 (by decide) (by decide)
    have rh401 := rh28 rfl
    simp only [ge_of eq16 eq10 eq19, toi bc_2] at rh401
    have rh402 := rh29 rfl
    simp only [gi_of eq4] at rh402
    refine lv_if_eq (tgt := 29) hx hb dX12_unit_5 (by decide) (fun c => absurd c (d_ne bc_1 bc_0 (by decide))) (fun _ => ?_)
    refine lv_aload_n hx hb dX12_unit_8 rfl (lv_at hl 0 rfl) ?_
    refine lv_iconst (v := 0) hx hb dX12_unit_9 (by decide) ?_
    refine lv_aload_n hx hb dX12_unit_10 rfl (lv_at hl 0 rfl) ?_
    obtain ⟨qa404, eq403, kd405⟩ := rd_13007 ok0 kd900
    refine p_get (ci := 12) (v := .ref qa404) (C := RX12) (T := TX12) (N := 69) hx hb hT iw_X12 hown hK hw hW kd900 (by decide) rfl rfl 7 (by decide) eq403 (hT _ tb_1381) (fun _ h9 => h9) dX12_unit_11 ?_
    refine lv_aload_n hx hb dX12_unit_14 rfl (lv_at hl 0 rfl) ?_
    refine p_get (ci := 12) (v := .int zi11) (C := RX12) (T := TX12) (N := 69) hx hb hT iw_X12 hown hK hw hW kd900 (by decide) rfl rfl 11 (by decide) eq10 (hT _ tb_1385) (fun _ h9 => h9) dX12_unit_15 ?_
    obtain ⟨zi407, eq406⟩ := rd_64000 ok0 kd405 ((zi11 : Int32).toNatClampNeg)
    refine p_iald (v := zi407) hx hb hK hw hW kd405 (by decide) rfl (hW.len kd405 (n := 403) rfl (by decide)) (vp_b bd12 (by decide) (by decide)) eq406 dX12_unit_18 ?_
    refine kq_v hw hS hA (va_runV (As := [.int 0, .int zi407]) (rest := []) ⟨hx, hb, hml, hown, hT⟩ (cX12_emit_0 l G cy ev K ln Ls hW _ hp0 ok0 qa900 0 zi407 kd900 (b_wid2 bc_0 (by decide) (by decide)) (by simp only [gi_of eq1]; omega)) (cwV 2 hT (good_V tb_1711 tb_1708 tb_1710 tb_73 tb_122) rfl rfl rfl (by decide +kernel) ⟨Nat.le_of_ble_eq_true rfl, Nat.le_of_ble_eq_true rfl⟩) (pool_preV (ci := 12) hK hE hS hA hw hW kd900 (by decide) rfl) rfl rfl hl.1 rfl (lv_room (Nat.le_of_ble_eq_true rfl)) dX12_unit_19 ⟨Nat.le_of_ble_eq_true rfl, Nat.le_of_ble_eq_true rfl⟩) (fun hp408 H locs hq411 hw hS => ?_)
    obtain ⟨ok409, F410, ⟨zi413, eq414, bd415⟩, xq416, rh417⟩ := hq411
    have hw : PW G cy K ln Ls A hp408 H := hw
    simp only [gi_of eq1, gi_of eq414] at rh417
    have eq418 : hp0 qa900 38 = .int zi413 := eq414
    have ei419 : EIx hp408 qa900 gc0 1 := EI_unit ok0 kd900 pdEI0 xq416 F410 (by have := toi bc_0; omega)
    have lp420 : LPx hp408 qa900 := LP_emit ok0 kd900 pdLPx xq416 F410 (by rw [gi_of eq418, gi_of eq7]; omega)
    refine lv_aload_n hx hb dX12_unit_22 rfl (lv_at hl 0 rfl) ?_
    have eq421 : hp408 qa900 13 = .int zi5 := Eq.trans (Fr.at (cq := 13013) F410 kd900 (cd_o (by decide)) (by decide)) eq4
    have eq422 : hp408 qa900 11 = .int zi11 := Eq.trans (Fr.at (cq := 13011) F410 kd900 (cd_o (by decide)) (by decide)) eq10
    refine kq_v hw hS hA (va_runV (As := []) (rest := []) ⟨hx, hb, hml, hown, hT⟩ (cX12_goesOn_0 l G cy ev K ln Ls hW _ hp408 ok409 qa900 kd900) (cwV 0 hT (good_V tb_1639 tb_1636 tb_1638 tb_56 tb_122) rfl rfl rfl (by decide +kernel) ⟨Nat.le_of_ble_eq_true rfl, Nat.le_of_ble_eq_true rfl⟩) (pool_preV (ci := 12) hK hE hS hA hw hW kd900 (by decide) rfl) rfl rfl hl.1 rfl (lv_room (Nat.le_of_ble_eq_true rfl)) dX12_unit_23 ⟨Nat.le_of_ble_eq_true rfl, Nat.le_of_ble_eq_true rfl⟩) (fun hp423 H locs hq426 hw hS => ?_)
    obtain ⟨ok424, F425, ⟨zi428, eq429, bd430⟩, rh431, rh432, rh433⟩ := hq426
    have hw : PW G cy K ln Ls A hp423 H := hw
    obtain ⟨zi435, eq434, bd436⟩ := rd_13013 ok424 kd900
    simp only [gi_of eq421, gi_of eq422, gi_of eq429, gi_of eq434] at rh431
    simp only [gi_of eq421, gi_of eq434] at rh432
    simp only [gi_of eq422, gi_of eq429, gi_of eq434] at rh433
    refine lv_goto (tgt := 115) hx hb dX12_unit_26 (by decide) ?_
    have pd437 : LPx hp423 qa900 := LP_fr ok409 kd900 (Fr.tr (Fr.rf) F425 (by decide)) (by decide) lp420
    have pd438 : EIx hp423 qa900 gc0 1 := EI_fr ok409 kd900 (Fr.tr (Fr.rf) F425 (by decide)) (by decide) ei419
    have eq439 : hp423 qa900 38 = .int zi413 := Eq.trans (Fr.at (cq := 13038) F425 kd900 (cd_o (by decide)) (by decide)) eq414
    have eq440 : hp423 qa900 19 = .int zi8 := Eq.trans (Fr.at (cq := 13019) F425 kd900 (cd_o (by decide)) (by decide)) (Eq.trans (Fr.at (cq := 13019) F410 kd900 (cd_o (by decide)) (by decide)) eq7)
    have eq441 : hp423 qa900 45 = .int zi14 := Eq.trans (Fr.at (cq := 13045) F425 kd900 (cd_o (by decide)) (by decide)) (Eq.trans (Fr.at (cq := 13045) F410 kd900 (cd_o (by decide)) (by decide)) eq13)
    rw [hQ]
    exact kz_v hx hb hr hlocks hS hp423 hw ⟨ok424, (Fr.tr (Fr.tr (Fr.rf) F410 (by decide)) F425 (by decide)), (pd437), (fun _ => pd438), (by simp only [gi_of eq10, gi_of eq4, gi_of eq429, gi_of eq434]; omega), (by simp only [gi_of eq4, gi_of eq434]; omega), (by simp only [gi_of eq10, gi_of eq429, gi_of eq434]; omega), (by simp only [gi_of eq429, gi_of eq434, gi_of eq439, gi_of eq440, gi_of eq441]; omega)⟩ (Nat.le_of_ble_eq_true rfl) (Nat.le_of_ble_eq_true rfl) dX12_unit_115
