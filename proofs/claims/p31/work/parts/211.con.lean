set_option maxRecDepth 100000 in
set_option maxHeartbeats 4000000 in
theorem cX12_token_2 (l : Launch) (G : va_G) (cy : Nat → ClassId) (ev : Ew) (K ln : Nat → Nat) (Ls : List Nat) (hW : SW K ln Ls) (sz : Nat) (hp0 : Nat → Nat → Value) (ok0 : Ok K hp0) (qa900 : Nat) (zi901 : Int32) (zi902 : Int32) (zi903 : Int32) (wl904 : Int64) (zi960 : Int32) (kd900 : K qa900 = 13) (eq960 : hp0 qa900 10 = .int zi960) (bd960 : ((0 : Int) ≤ zi960.toInt ∧ zi960.toInt ≤ 2)) : Met l yX12_token (WS yX12_token cX12_token 6 none) { frames := 0, cells := 0, slots := 0, locals := 0 } (PB2 [.ref qa900, .int zi901, .int zi902, .int zi903, .long wl904] sz G cy ev (va_pl Ls (cellOf cy K ln hp0))) (QBv (S := (Nat → Nat → Value)) (fun u : (Nat → Nat → Value) => Ok K u ∧ Fr [13010, 62000, 63000, 64000, 65000] K hp0 u ∧ (∃ z : Int32, u qa900 10 = .int z ∧ ((1 : Int) ≤ z.toInt ∧ z.toInt ≤ 3)) ∧ ((gi u qa900 10) = (gi hp0 qa900 10) + 1)) G (fun u => va_pl Ls (cellOf cy K ln u)) (va_A (va_pl Ls (cellOf cy K ln hp0)) sz)) 0 0 (va_A (va_pl Ls (cellOf cy K ln hp0)) sz) := by
  refine met_of2 (y := yX12_token) (L := 6) (av := [.ref qa900, .int zi901, .int zi902, .int zi903, .long wl904]) (Qc := fun A => QBv (S := (Nat → Nat → Value)) (fun u : (Nat → Nat → Value) => Ok K u ∧ Fr [13010, 62000, 63000, 64000, 65000] K hp0 u ∧ (∃ z : Int32, u qa900 10 = .int z ∧ ((1 : Int) ≤ z.toInt ∧ z.toInt ≤ 3)) ∧ ((gi u qa900 10) = (gi hp0 qa900 10) + 1)) G (fun u => va_pl Ls (cellOf cy K ln u)) A) (plainFor_of_name (by decide)) (Nat.le_of_ble_eq_true rfl) ?_
  intro p e s m below meth c hsz hx hb hr hml hown hT hlocks hin hK A hA hE hw hS ls hl
  have hw : PW G cy K ln Ls A hp0 s.heap := hw
  have hown : s.vm.findClass "LieClockModel" = some m.cls := hown
  have hl : lv_has ls 6 [(0, .ref qa900), (1, .int zi901), (2, .int zi902), (3, .int zi903), (4, .long wl904)] := hl
  obtain ⟨Q, hQ⟩ : ∃ Q : State → Prop, Q = MQ below (QBv (S := (Nat → Nat → Value)) (fun u : (Nat → Nat → Value) => Ok K u ∧ Fr [13010, 62000, 63000, 64000, 65000] K hp0 u ∧ (∃ z : Int32, u qa900 10 = .int z ∧ ((1 : Int) ≤ z.toInt ∧ z.toInt ≤ 3)) ∧ ((gi u qa900 10) = (gi hp0 qa900 10) + 1)) G (fun u => va_pl Ls (cellOf cy K ln u)) A) ([.ref qa900, .int zi901, .int zi902, .int zi903, .long wl904] : List Value).toArray s 0 0 A := ⟨_, rfl⟩
  rw [← hQ]
  refine lv_aload_n hx hb dX12_token_0 rfl (lv_at hl 0 rfl) ?_
  obtain ⟨qa2, eq1, kd3⟩ := rd_13005 ok0 kd900
  refine p_get (ci := 12) (v := .ref qa2) (C := RX12) (T := TX12) (N := 69) hx hb hT iw_X12 hown hK hw hW kd900 (by decide) rfl rfl 5 (by decide) eq1 (hT _ tb_1379) (fun _ h9 => h9) dX12_token_1 ?_
  refine lv_aload_n hx hb dX12_token_4 rfl (lv_at hl 0 rfl) ?_
  refine p_get (ci := 12) (v := .int zi960) (C := RX12) (T := TX12) (N := 69) hx hb hT iw_X12 hown hK hw hW kd900 (by decide) rfl rfl 10 (by decide) eq960 (hT _ tb_1384) (fun _ h9 => h9) dX12_token_5 ?_
  refine lv_iload_n hx hb dX12_token_8 rfl (lv_at hl 1 rfl) ?_
  refine p_iast (x := zi901) hx hb hK hw hS hW kd3 (by decide) rfl (hW.len kd3 (n := 403) rfl (by decide)) (vp_b bd960 (by decide) (by decide)) dX12_token_9 (fun hp4 eh5 H locs hw hS => ?_)
  have ok6 := wr_62000 ok0 kd3 eh5
  refine lv_aload_n hx hb dX12_token_10 rfl (lv_at hl 0 rfl) ?_
  obtain ⟨qa8, eq7, kd9⟩ := rd_13006 ok6 kd900
  refine p_get (ci := 12) (v := .ref qa8) (C := RX12) (T := TX12) (N := 69) hx hb hT iw_X12 hown hK hw hW kd900 (by decide) rfl rfl 6 (by decide) eq7 (hT _ tb_1380) (fun _ h9 => h9) dX12_token_11 ?_
  refine lv_aload_n hx hb dX12_token_14 rfl (lv_at hl 0 rfl) ?_
  have eq10 : hp4 qa900 10 = .int zi960 := Eq.trans (up_at eh5 (Or.inl (kd_ne kd900 kd3 (by decide)))) eq960
  refine p_get (ci := 12) (v := .int zi960) (C := RX12) (T := TX12) (N := 69) hx hb hT iw_X12 hown hK hw hW kd900 (by decide) rfl rfl 10 (by decide) eq10 (hT _ tb_1384) (fun _ h9 => h9) dX12_token_15 ?_
  refine lv_iload_n hx hb dX12_token_18 rfl (lv_at hl 2 rfl) ?_
  refine p_iast (x := zi902) hx hb hK hw hS hW kd9 (by decide) rfl (hW.len kd9 (n := 403) rfl (by decide)) (vp_b bd960 (by decide) (by decide)) dX12_token_19 (fun hp11 eh12 H locs hw hS => ?_)
  have ok13 := wr_63000 ok6 kd9 eh12
  refine lv_aload_n hx hb dX12_token_20 rfl (lv_at hl 0 rfl) ?_
  obtain ⟨qa15, eq14, kd16⟩ := rd_13007 ok13 kd900
  refine p_get (ci := 12) (v := .ref qa15) (C := RX12) (T := TX12) (N := 69) hx hb hT iw_X12 hown hK hw hW kd900 (by decide) rfl rfl 7 (by decide) eq14 (hT _ tb_1381) (fun _ h9 => h9) dX12_token_21 ?_
  refine lv_aload_n hx hb dX12_token_24 rfl (lv_at hl 0 rfl) ?_
  have eq17 : hp11 qa900 10 = .int zi960 := Eq.trans (up_at eh12 (Or.inl (kd_ne kd900 kd9 (by decide)))) eq10
  refine p_get (ci := 12) (v := .int zi960) (C := RX12) (T := TX12) (N := 69) hx hb hT iw_X12 hown hK hw hW kd900 (by decide) rfl rfl 10 (by decide) eq17 (hT _ tb_1384) (fun _ h9 => h9) dX12_token_25 ?_
  refine lv_iload_n hx hb dX12_token_28 rfl (lv_at hl 3 rfl) ?_
  refine p_iast (x := zi903) hx hb hK hw hS hW kd16 (by decide) rfl (hW.len kd16 (n := 403) rfl (by decide)) (vp_b bd960 (by decide) (by decide)) dX12_token_29 (fun hp18 eh19 H locs hw hS => ?_)
  have ok20 := wr_64000 ok13 kd16 eh19
  refine lv_aload_n hx hb dX12_token_30 rfl (lv_at hl 0 rfl) ?_
  obtain ⟨qa22, eq21, kd23⟩ := rd_13008 ok20 kd900
  refine p_get (ci := 12) (v := .ref qa22) (C := RX12) (T := TX12) (N := 69) hx hb hT iw_X12 hown hK hw hW kd900 (by decide) rfl rfl 8 (by decide) eq21 (hT _ tb_1382) (fun _ h9 => h9) dX12_token_31 ?_
  refine lv_aload_n hx hb dX12_token_34 rfl (lv_at hl 0 rfl) ?_
  have eq24 : hp18 qa900 10 = .int zi960 := Eq.trans (up_at eh19 (Or.inl (kd_ne kd900 kd16 (by decide)))) eq17
  refine p_get (ci := 12) (v := .int zi960) (C := RX12) (T := TX12) (N := 69) hx hb hT iw_X12 hown hK hw hW kd900 (by decide) rfl rfl 10 (by decide) eq24 (hT _ tb_1384) (fun _ h9 => h9) dX12_token_35 ?_
  refine lv_lload hx hb dX12_token_38 (lv_at hl 4 rfl) ?_
  refine p_last (x := wl904) hx hb hK hw hS hW kd23 (by decide) rfl (hW.len kd23 (n := 403) rfl (by decide)) (vp_b bd960 (by decide) (by decide)) dX12_token_40 (fun hp25 eh26 H locs hw hS => ?_)
  have ok27 := wr_65000 ok20 kd23 eh26
  refine lv_aload_n hx hb dX12_token_41 rfl (lv_at hl 0 rfl) ?_
  refine lv_dup hx hb dX12_token_42 rfl ?_
  have eq28 : hp25 qa900 10 = .int zi960 := Eq.trans (up_at eh26 (Or.inl (kd_ne kd900 kd23 (by decide)))) eq24
  refine p_get (ci := 12) (v := .int zi960) (C := RX12) (T := TX12) (N := 69) hx hb hT iw_X12 hown hK hw hW kd900 (by decide) rfl rfl 10 (by decide) eq28 (hT _ tb_1384) (fun _ h9 => h9) dX12_token_43 ?_
  refine lv_iconst (v := 1) hx hb dX12_token_46 (by decide) ?_
  refine lv_iadd hx hb dX12_token_47 (lv_topi (fun zi29 ea30 => ?_))
  have bd31 : (1 : Int) ≤ zi29.toInt ∧ zi29.toInt ≤ 3 := b_iadd ea30 bd960 bc_1 (by decide) (by decide) (by decide) (by decide)
  have qe32 : zi29.toInt = (zi960 : Int32).toInt + (1 : Int32).toInt := e_iadd ea30 bd960 bc_1 (by decide) (by decide)
  have qe33 : zi29.toInt = zi960.toInt + 1 := by have ha : (1 : Int32).toInt = 1 := (by decide); rw [ha] at qe32; exact qe32
  refine p_put (ci := 12) (v := .int zi29) (ty := .int) (C := RX12) (T := TX12) (N := 69) hx hb hT iw_X12 tyX12 tyX12_ok nmX12 hown hK hw hS hW kd900 (by decide) rfl rfl 10 (by decide) (hT _ tb_1384) (fun _ h9 => h9) rfl (by decide +kernel) rfl rfl dX12_token_48 (fun hp34 eh35 H locs hw hS => ?_)
  have ok36 := wr_13010 bd31 (by decide) (by decide) ok27 kd900 eh35
  rw [hQ]
  exact kz_v hx hb hr hlocks hS hp34 hw ⟨ok36, (Fr.put (cq := 13010) (Fr.put (cq := 65000) (Fr.put (cq := 64000) (Fr.put (cq := 63000) (Fr.put (cq := 62000) (Fr.rf) eh5 kd3 (cd_a (by decide)) (by decide)) eh12 kd9 (cd_a (by decide)) (by decide)) eh19 kd16 (cd_a (by decide)) (by decide)) eh26 kd23 (cd_a (by decide)) (by decide)) eh35 kd900 (cd_o (by decide)) (by decide)), ⟨_, (hp_self eh35), b_wid2 bd31 (by decide) (by decide)⟩, (by simp only [gi_of (hp_self eh35), gi_of eq960]; omega)⟩ (Nat.le_of_ble_eq_true rfl) (Nat.le_of_ble_eq_true rfl) dX12_token_51

set_option maxRecDepth 100000 in
set_option maxHeartbeats 4000000 in
theorem cX12_sign_2 (l : Launch) (G : va_G) (cy : Nat → ClassId) (ev : Ew) (K ln : Nat → Nat) (Ls : List Nat) (hW : SW K ln Ls) (sz : Nat) (hp0 : Nat → Nat → Value) (ok0 : Ok K hp0) (qa900 : Nat) (zi901 : Int32) (zi902 : Int32) (zi903 : Int32) (zi960 : Int32) (kd900 : K qa900 = 13) (eq960 : hp0 qa900 10 = .int zi960) (bd960 : ((0 : Int) ≤ zi960.toInt ∧ zi960.toInt ≤ 2)) : Met l yX12_sign (WS yX12_sign cX12_sign 5 (some .int)) { frames := 1, cells := 0, slots := 0, locals := 25 } (PB2 [.ref qa900, .int zi901, .int zi902, .int zi903] sz G cy ev (va_pl Ls (cellOf cy K ln hp0))) (QBi (S := (Nat → Nat → Value)) (fun (r : Int32) (u : (Nat → Nat → Value)) => Ok K u ∧ Fr [13010, 62000, 63000, 64000, 65000] K hp0 u ∧ ((1 : Int) ≤ r.toInt ∧ r.toInt ≤ 1) ∧ (∃ z : Int32, u qa900 10 = .int z ∧ ((1 : Int) ≤ z.toInt ∧ z.toInt ≤ 3)) ∧ ((gi u qa900 10) = (gi hp0 qa900 10) + 1)) G (fun u => va_pl Ls (cellOf cy K ln u)) (va_A (va_pl Ls (cellOf cy K ln hp0)) sz)) 0 0 (va_A (va_pl Ls (cellOf cy K ln hp0)) sz) := by
  refine met_of2 (y := yX12_sign) (L := 5) (av := [.ref qa900, .int zi901, .int zi902, .int zi903]) (Qc := fun A => QBi (S := (Nat → Nat → Value)) (fun (r : Int32) (u : (Nat → Nat → Value)) => Ok K u ∧ Fr [13010, 62000, 63000, 64000, 65000] K hp0 u ∧ ((1 : Int) ≤ r.toInt ∧ r.toInt ≤ 1) ∧ (∃ z : Int32, u qa900 10 = .int z ∧ ((1 : Int) ≤ z.toInt ∧ z.toInt ≤ 3)) ∧ ((gi u qa900 10) = (gi hp0 qa900 10) + 1)) G (fun u => va_pl Ls (cellOf cy K ln u)) A) (plainFor_of_name (by decide)) (Nat.le_of_ble_eq_true rfl) ?_
  intro p e s m below meth c hsz hx hb hr hml hown hT hlocks hin hK A hA hE hw hS ls hl
  have hw : PW G cy K ln Ls A hp0 s.heap := hw
  have hown : s.vm.findClass "LieClockModel" = some m.cls := hown
  have hl : lv_has ls 5 [(0, .ref qa900), (1, .int zi901), (2, .int zi902), (3, .int zi903)] := hl
  obtain ⟨Q, hQ⟩ : ∃ Q : State → Prop, Q = MQ below (QBi (S := (Nat → Nat → Value)) (fun (r : Int32) (u : (Nat → Nat → Value)) => Ok K u ∧ Fr [13010, 62000, 63000, 64000, 65000] K hp0 u ∧ ((1 : Int) ≤ r.toInt ∧ r.toInt ≤ 1) ∧ (∃ z : Int32, u qa900 10 = .int z ∧ ((1 : Int) ≤ z.toInt ∧ z.toInt ≤ 3)) ∧ ((gi u qa900 10) = (gi hp0 qa900 10) + 1)) G (fun u => va_pl Ls (cellOf cy K ln u)) A) ([.ref qa900, .int zi901, .int zi902, .int zi903] : List Value).toArray s 0 0 A := ⟨_, rfl⟩
  rw [← hQ]
  refine lv_iload_n hx hb dX12_sign_0 rfl (lv_at hl 2 rfl) ?_
  refine lv_bipush (v := 59) hx hb dX12_sign_1 (by decide) ?_
  have jn15 : ∀ (zi13 : Int32) (H : Heap) (locs : List Loc) (ls : Array Slot), ((3 : Int) ≤ zi13.toInt ∧ zi13.toInt ≤ 7) → lv_has ls 5 [(0, .ref qa900), (1, .int zi901), (2, .int zi902)] → PW G cy K ln Ls A hp0 H → va_S A s.heap H locs → W p l e ({ frames := 1, cells := 0, slots := 0, locals := 25 } : Room) s m ([.ref qa900, .int zi901, .int zi902, .int zi903] : List Value).toArray below meth c H locs 0 0 Q (F0 m 43 ls [.int zi13]) := by
    intro zi13 H locs ls bd14 hl hw hS
    refine lv_istore (lv' := [(4, .int zi13), (0, .ref qa900), (1, .int zi901), (2, .int zi902)]) hx hb dX12_sign_43 hl (by decide) rfl (fun ls hl => ?_)
    refine lv_iload_n hx hb dX12_sign_45 rfl (lv_at hl 3 rfl) ?_
    refine lv_bipush (v := 43) hx hb dX12_sign_46 (by decide) ?_
    have jn21 : ∀ (zi19 : Int32) (H : Heap) (locs : List Loc) (ls : Array Slot), ((3 : Int) ≤ zi19.toInt ∧ zi19.toInt ≤ 8) → lv_has ls 5 [(0, .ref qa900), (1, .int zi901), (2, .int zi902), (4, .int zi19)] → PW G cy K ln Ls A hp0 H → va_S A s.heap H locs → W p l e ({ frames := 1, cells := 0, slots := 0, locals := 25 } : Room) s m ([.ref qa900, .int zi901, .int zi902, .int zi903] : List Value).toArray below meth c H locs 0 0 Q (F0 m 55 ls []) := by
      intro zi19 H locs ls bd20 hl hw hS
      refine lv_iload_n hx hb dX12_sign_55 rfl (lv_at hl 2 rfl) ?_
      refine lv_bipush (v := 45) hx hb dX12_sign_56 (by decide) ?_
      have jn27 : ∀ (zi25 : Int32) (H : Heap) (locs : List Loc) (ls : Array Slot), ((3 : Int) ≤ zi25.toInt ∧ zi25.toInt ≤ 9) → lv_has ls 5 [(0, .ref qa900), (1, .int zi901), (2, .int zi902), (4, .int zi25)] → PW G cy K ln Ls A hp0 H → va_S A s.heap H locs → W p l e ({ frames := 1, cells := 0, slots := 0, locals := 25 } : Room) s m ([.ref qa900, .int zi901, .int zi902, .int zi903] : List Value).toArray below meth c H locs 0 0 Q (F0 m 65 ls []) := by
        intro zi25 H locs ls bd26 hl hw hS
        refine lv_iload_n hx hb dX12_sign_65 rfl (lv_at hl 2 rfl) ?_
        refine lv_bipush (v := 42) hx hb dX12_sign_66 (by decide) ?_
        have jn33 : ∀ (zi31 : Int32) (H : Heap) (locs : List Loc) (ls : Array Slot), ((3 : Int) ≤ zi31.toInt ∧ zi31.toInt ≤ 10) → lv_has ls 5 [(0, .ref qa900), (1, .int zi901), (2, .int zi902), (4, .int zi31)] → PW G cy K ln Ls A hp0 H → va_S A s.heap H locs → W p l e ({ frames := 1, cells := 0, slots := 0, locals := 25 } : Room) s m ([.ref qa900, .int zi901, .int zi902, .int zi903] : List Value).toArray below meth c H locs 0 0 Q (F0 m 75 ls []) := by
          intro zi31 H locs ls bd32 hl hw hS
          refine lv_iload_n hx hb dX12_sign_75 rfl (lv_at hl 2 rfl) ?_
          refine lv_bipush (v := 47) hx hb dX12_sign_76 (by decide) ?_
          have jn39 : ∀ (zi37 : Int32) (H : Heap) (locs : List Loc) (ls : Array Slot), ((3 : Int) ≤ zi37.toInt ∧ zi37.toInt ≤ 15) → lv_has ls 5 [(0, .ref qa900), (1, .int zi901), (4, .int zi37)] → PW G cy K ln Ls A hp0 H → va_S A s.heap H locs → W p l e ({ frames := 1, cells := 0, slots := 0, locals := 25 } : Room) s m ([.ref qa900, .int zi901, .int zi902, .int zi903] : List Value).toArray below meth c H locs 0 0 Q (F0 m 85 ls []) := by
            intro zi37 H locs ls bd38 hl hw hS
            refine lv_aload_n hx hb dX12_sign_85 rfl (lv_at hl 0 rfl) ?_
            refine lv_iload hx hb dX12_sign_86 (lv_at hl 2 rfl) ?_
            refine lv_iload_n hx hb dX12_sign_88 rfl (lv_at hl 1 rfl) ?_
            refine lv_iconst (v := 0) hx hb dX12_sign_89 (by decide) ?_
            refine lv_lconst (v := 0) hx hb dX12_sign_90 (by decide) ?_
            refine kq_v hw hS hA (va_runV (As := [.int zi37, .int zi901, .int 0, .long 0]) (rest := []) ⟨hx, hb, hml, hown, hT⟩ (cX12_token_2 l G cy ev K ln Ls hW _ hp0 ok0 qa900 zi37 zi901 0 0 zi960 kd900 eq960 (b_wid2 bd960 (by decide) (by decide))) (cwV 4 hT (good_V tb_1609 tb_1606 tb_1608 tb_50 tb_122) rfl rfl rfl (by decide +kernel) ⟨Nat.le_of_ble_eq_true rfl, Nat.le_of_ble_eq_true rfl⟩) (pool_preV (ci := 12) hK hE hS hA hw hW kd900 (by decide) rfl) rfl rfl hl.1 rfl (lv_room (Nat.le_of_ble_eq_true rfl)) dX12_sign_91 ⟨Nat.le_of_ble_eq_true rfl, Nat.le_of_ble_eq_true rfl⟩) (fun hp40 H locs hq43 hw hS => ?_)
            obtain ⟨ok41, F42, ⟨zi45, eq46, bd47⟩, rh48⟩ := hq43
            have hw : PW G cy K ln Ls A hp40 H := hw
            simp only [gi_of eq46, gi_of eq960] at rh48
            refine lv_iconst (v := 1) hx hb dX12_sign_94 (by decide) ?_
            rw [hQ]
            exact kz_i hx hb hr hlocks hS rfl hp40 hw ⟨ok41, (Fr.tr (Fr.rf) F42 (by decide)), (b_wid2 bc_1 (by decide) (by decide)), ⟨_, eq46, b_wid2 bd47 (by decide) (by decide)⟩, (by simp only [gi_of eq46, gi_of eq960]; omega)⟩ (Nat.le_of_ble_eq_true rfl) (Nat.le_of_ble_eq_true rfl) dX12_sign_95
          refine lv_icmp_ne (tgt := 85) hx hb dX12_sign_78 (by decide) (fun cn34 => ?_) (fun cn34 => ?_)
          · skip
            have tf49 : (zi902 : Int32).toInt ≠ (47 : Int32).toInt := fun e => cn34 (Int32.toInt_inj.mp e)
            have := toi bc_47
            exact jn39 zi31 _ _ ls (b_wid2 bd32 (by decide) (by decide)) (lv_sub hl [0, 1, 3] rfl) hw hS
          · skip
            have bd50 : (47 : Int) ≤ zi902.toInt ∧ zi902.toInt ≤ 47 := r_eq_x cn34 (b_all zi902) bc_47 (by decide) (by decide)
            refine lv_bipush (v := 15) hx hb dX12_sign_81 (by decide) ?_
            refine lv_istore (lv' := [(4, .int 15), (0, .ref qa900), (1, .int zi901), (2, .int zi902)]) hx hb dX12_sign_83 hl (by decide) rfl (fun ls hl => ?_)
            exact jn39 15 _ _ ls (b_wid2 bc_15 (by decide) (by decide)) (lv_sub hl [1, 2, 0] rfl) hw hS
        refine lv_icmp_ne (tgt := 75) hx hb dX12_sign_68 (by decide) (fun cn28 => ?_) (fun cn28 => ?_)
        · skip
          have tf51 : (zi902 : Int32).toInt ≠ (42 : Int32).toInt := fun e => cn28 (Int32.toInt_inj.mp e)
          have := toi bc_42
          exact jn33 zi25 _ _ ls (b_wid2 bd26 (by decide) (by decide)) (lv_sub hl [0, 1, 2, 3] rfl) hw hS
        · skip
          have bd52 : (42 : Int) ≤ zi902.toInt ∧ zi902.toInt ≤ 42 := r_eq_x cn28 (b_all zi902) bc_42 (by decide) (by decide)
          refine lv_bipush (v := 10) hx hb dX12_sign_71 (by decide) ?_
          refine lv_istore (lv' := [(4, .int 10), (0, .ref qa900), (1, .int zi901), (2, .int zi902)]) hx hb dX12_sign_73 hl (by decide) rfl (fun ls hl => ?_)
          exact jn33 10 _ _ ls (b_wid2 bc_10 (by decide) (by decide)) (lv_sub hl [1, 2, 3, 0] rfl) hw hS
      refine lv_icmp_ne (tgt := 65) hx hb dX12_sign_58 (by decide) (fun cn22 => ?_) (fun cn22 => ?_)
      · skip
        have tf53 : (zi902 : Int32).toInt ≠ (45 : Int32).toInt := fun e => cn22 (Int32.toInt_inj.mp e)
        have := toi bc_45
        exact jn27 zi19 _ _ ls (b_wid2 bd20 (by decide) (by decide)) (lv_sub hl [0, 1, 2, 3] rfl) hw hS
      · skip
        have bd54 : (45 : Int) ≤ zi902.toInt ∧ zi902.toInt ≤ 45 := r_eq_x cn22 (b_all zi902) bc_45 (by decide) (by decide)
        refine lv_bipush (v := 9) hx hb dX12_sign_61 (by decide) ?_
        refine lv_istore (lv' := [(4, .int 9), (0, .ref qa900), (1, .int zi901), (2, .int zi902)]) hx hb dX12_sign_63 hl (by decide) rfl (fun ls hl => ?_)
        exact jn27 9 _ _ ls (b_wid2 bc_9 (by decide) (by decide)) (lv_sub hl [1, 2, 3, 0] rfl) hw hS
    refine lv_icmp_ne (tgt := 55) hx hb dX12_sign_48 (by decide) (fun cn16 => ?_) (fun cn16 => ?_)
    · skip
      have tf55 : (zi902 : Int32).toInt ≠ (43 : Int32).toInt := fun e => cn16 (Int32.toInt_inj.mp e)
      have := toi bc_43
      exact jn21 zi13 _ _ ls (b_wid2 bd14 (by decide) (by decide)) (lv_sub hl [1, 2, 3, 0] rfl) hw hS
    · skip
      have bd56 : (43 : Int) ≤ zi902.toInt ∧ zi902.toInt ≤ 43 := r_eq_x cn16 (b_all zi902) bc_43 (by decide) (by decide)
      refine lv_bipush (v := 8) hx hb dX12_sign_51 (by decide) ?_
      refine lv_istore (lv' := [(4, .int 8), (0, .ref qa900), (1, .int zi901), (2, .int zi902)]) hx hb dX12_sign_53 hl (by decide) rfl (fun ls hl => ?_)
      exact jn21 8 _ _ ls (b_wid2 bc_8 (by decide) (by decide)) (lv_sub hl [1, 2, 3, 0] rfl) hw hS
  refine lv_icmp_ne (tgt := 10) hx hb dX12_sign_3 (by decide) (fun cn1 => ?_) (fun cn1 => ?_)
  · skip
    have tf57 : (zi902 : Int32).toInt ≠ (59 : Int32).toInt := fun e => cn1 (Int32.toInt_inj.mp e)
    have := toi bc_59
    refine lv_iload_n hx hb dX12_sign_10 rfl (lv_at hl 2 rfl) ?_
    refine lv_bipush (v := 61) hx hb dX12_sign_11 (by decide) ?_
    refine lv_icmp_ne (tgt := 20) hx hb dX12_sign_13 (by decide) (fun cn58 => ?_) (fun cn58 => ?_)
    · skip
      have tf59 : (zi902 : Int32).toInt ≠ (61 : Int32).toInt := fun e => cn58 (Int32.toInt_inj.mp e)
      have := toi bc_61
      refine lv_iload_n hx hb dX12_sign_20 rfl (lv_at hl 2 rfl) ?_
      refine lv_bipush (v := 40) hx hb dX12_sign_21 (by decide) ?_
      refine lv_icmp_ne (tgt := 31) hx hb dX12_sign_23 (by decide) (fun cn60 => ?_) (fun cn60 => ?_)
      · skip
        have tf61 : (zi902 : Int32).toInt ≠ (40 : Int32).toInt := fun e => cn60 (Int32.toInt_inj.mp e)
        have := toi bc_40
        refine lv_iload_n hx hb dX12_sign_31 rfl (lv_at hl 2 rfl) ?_
        refine lv_bipush (v := 41) hx hb dX12_sign_32 (by decide) ?_
        refine lv_icmp_ne (tgt := 42) hx hb dX12_sign_34 (by decide) (fun cn62 => ?_) (fun cn62 => ?_)
        · skip
          have tf63 : (zi902 : Int32).toInt ≠ (41 : Int32).toInt := fun e => cn62 (Int32.toInt_inj.mp e)
          have := toi bc_41
          refine lv_iconst (v := 3) hx hb dX12_sign_42 (by decide) ?_
          exact jn15 3 _ _ ls (b_wid2 bc_3 (by decide) (by decide)) (lv_sub hl [0, 1, 2] rfl) hw hS
        · skip
          have bd64 : (41 : Int) ≤ zi902.toInt ∧ zi902.toInt ≤ 41 := r_eq_x cn62 (b_all zi902) bc_41 (by decide) (by decide)
          refine lv_bipush (v := 7) hx hb dX12_sign_37 (by decide) ?_
          refine lv_goto (tgt := 43) hx hb dX12_sign_39 (by decide) ?_
          exact jn15 7 _ _ ls (b_wid2 bc_7 (by decide) (by decide)) (lv_sub hl [0, 1, 2] rfl) hw hS
      · skip
        have bd65 : (40 : Int) ≤ zi902.toInt ∧ zi902.toInt ≤ 40 := r_eq_x cn60 (b_all zi902) bc_40 (by decide) (by decide)
        refine lv_bipush (v := 6) hx hb dX12_sign_26 (by decide) ?_
        refine lv_goto (tgt := 43) hx hb dX12_sign_28 (by decide) ?_
        exact jn15 6 _ _ ls (b_wid2 bc_6 (by decide) (by decide)) (lv_sub hl [0, 1, 2] rfl) hw hS
    · skip
      have bd66 : (61 : Int) ≤ zi902.toInt ∧ zi902.toInt ≤ 61 := r_eq_x cn58 (b_all zi902) bc_61 (by decide) (by decide)
      refine lv_iconst (v := 5) hx hb dX12_sign_16 (by decide) ?_
      refine lv_goto (tgt := 43) hx hb dX12_sign_17 (by decide) ?_
      exact jn15 5 _ _ ls (b_wid2 bc_5 (by decide) (by decide)) (lv_sub hl [0, 1, 2] rfl) hw hS
  · skip
    have bd67 : (59 : Int) ≤ zi902.toInt ∧ zi902.toInt ≤ 59 := r_eq_x cn1 (b_all zi902) bc_59 (by decide) (by decide)
    refine lv_iconst (v := 4) hx hb dX12_sign_6 (by decide) ?_
    refine lv_goto (tgt := 43) hx hb dX12_sign_7 (by decide) ?_
    exact jn15 4 _ _ ls (b_wid2 bc_4 (by decide) (by decide)) (lv_sub hl [0, 1, 2] rfl) hw hS

set_option maxRecDepth 100000 in
set_option maxHeartbeats 4000000 in
theorem cX12_token_3 (l : Launch) (G : va_G) (cy : Nat → ClassId) (ev : Ew) (K ln : Nat → Nat) (Ls : List Nat) (hW : SW K ln Ls) (sz : Nat) (hp0 : Nat → Nat → Value) (ok0 : Ok K hp0) (qa900 : Nat) (zi901 : Int32) (zi902 : Int32) (zi903 : Int32) (wl904 : Int64) (zi960 : Int32) (kd900 : K qa900 = 13) (eq960 : hp0 qa900 10 = .int zi960) (bd960 : ((0 : Int) ≤ zi960.toInt ∧ zi960.toInt ≤ 16)) : Met l yX12_token (WS yX12_token cX12_token 6 none) { frames := 0, cells := 0, slots := 0, locals := 0 } (PB2 [.ref qa900, .int zi901, .int zi902, .int zi903, .long wl904] sz G cy ev (va_pl Ls (cellOf cy K ln hp0))) (QBv (S := (Nat → Nat → Value)) (fun u : (Nat → Nat → Value) => Ok K u ∧ Fr [13010, 62000, 63000, 64000, 65000] K hp0 u ∧ (∃ z : Int32, u qa900 10 = .int z ∧ ((1 : Int) ≤ z.toInt ∧ z.toInt ≤ 17)) ∧ ((gi u qa900 10) = (gi hp0 qa900 10) + 1)) G (fun u => va_pl Ls (cellOf cy K ln u)) (va_A (va_pl Ls (cellOf cy K ln hp0)) sz)) 0 0 (va_A (va_pl Ls (cellOf cy K ln hp0)) sz) := by
  refine met_of2 (y := yX12_token) (L := 6) (av := [.ref qa900, .int zi901, .int zi902, .int zi903, .long wl904]) (Qc := fun A => QBv (S := (Nat → Nat → Value)) (fun u : (Nat → Nat → Value) => Ok K u ∧ Fr [13010, 62000, 63000, 64000, 65000] K hp0 u ∧ (∃ z : Int32, u qa900 10 = .int z ∧ ((1 : Int) ≤ z.toInt ∧ z.toInt ≤ 17)) ∧ ((gi u qa900 10) = (gi hp0 qa900 10) + 1)) G (fun u => va_pl Ls (cellOf cy K ln u)) A) (plainFor_of_name (by decide)) (Nat.le_of_ble_eq_true rfl) ?_
  intro p e s m below meth c hsz hx hb hr hml hown hT hlocks hin hK A hA hE hw hS ls hl
  have hw : PW G cy K ln Ls A hp0 s.heap := hw
  have hown : s.vm.findClass "LieClockModel" = some m.cls := hown
  have hl : lv_has ls 6 [(0, .ref qa900), (1, .int zi901), (2, .int zi902), (3, .int zi903), (4, .long wl904)] := hl
  obtain ⟨Q, hQ⟩ : ∃ Q : State → Prop, Q = MQ below (QBv (S := (Nat → Nat → Value)) (fun u : (Nat → Nat → Value) => Ok K u ∧ Fr [13010, 62000, 63000, 64000, 65000] K hp0 u ∧ (∃ z : Int32, u qa900 10 = .int z ∧ ((1 : Int) ≤ z.toInt ∧ z.toInt ≤ 17)) ∧ ((gi u qa900 10) = (gi hp0 qa900 10) + 1)) G (fun u => va_pl Ls (cellOf cy K ln u)) A) ([.ref qa900, .int zi901, .int zi902, .int zi903, .long wl904] : List Value).toArray s 0 0 A := ⟨_, rfl⟩
  rw [← hQ]
  refine lv_aload_n hx hb dX12_token_0 rfl (lv_at hl 0 rfl) ?_
  obtain ⟨qa2, eq1, kd3⟩ := rd_13005 ok0 kd900
  refine p_get (ci := 12) (v := .ref qa2) (C := RX12) (T := TX12) (N := 69) hx hb hT iw_X12 hown hK hw hW kd900 (by decide) rfl rfl 5 (by decide) eq1 (hT _ tb_1379) (fun _ h9 => h9) dX12_token_1 ?_
  refine lv_aload_n hx hb dX12_token_4 rfl (lv_at hl 0 rfl) ?_
  refine p_get (ci := 12) (v := .int zi960) (C := RX12) (T := TX12) (N := 69) hx hb hT iw_X12 hown hK hw hW kd900 (by decide) rfl rfl 10 (by decide) eq960 (hT _ tb_1384) (fun _ h9 => h9) dX12_token_5 ?_
  refine lv_iload_n hx hb dX12_token_8 rfl (lv_at hl 1 rfl) ?_
  refine p_iast (x := zi901) hx hb hK hw hS hW kd3 (by decide) rfl (hW.len kd3 (n := 403) rfl (by decide)) (vp_b bd960 (by decide) (by decide)) dX12_token_9 (fun hp4 eh5 H locs hw hS => ?_)
  have ok6 := wr_62000 ok0 kd3 eh5
  refine lv_aload_n hx hb dX12_token_10 rfl (lv_at hl 0 rfl) ?_
  obtain ⟨qa8, eq7, kd9⟩ := rd_13006 ok6 kd900
  refine p_get (ci := 12) (v := .ref qa8) (C := RX12) (T := TX12) (N := 69) hx hb hT iw_X12 hown hK hw hW kd900 (by decide) rfl rfl 6 (by decide) eq7 (hT _ tb_1380) (fun _ h9 => h9) dX12_token_11 ?_
  refine lv_aload_n hx hb dX12_token_14 rfl (lv_at hl 0 rfl) ?_
  have eq10 : hp4 qa900 10 = .int zi960 := Eq.trans (up_at eh5 (Or.inl (kd_ne kd900 kd3 (by decide)))) eq960
  refine p_get (ci := 12) (v := .int zi960) (C := RX12) (T := TX12) (N := 69) hx hb hT iw_X12 hown hK hw hW kd900 (by decide) rfl rfl 10 (by decide) eq10 (hT _ tb_1384) (fun _ h9 => h9) dX12_token_15 ?_
  refine lv_iload_n hx hb dX12_token_18 rfl (lv_at hl 2 rfl) ?_
  refine p_iast (x := zi902) hx hb hK hw hS hW kd9 (by decide) rfl (hW.len kd9 (n := 403) rfl (by decide)) (vp_b bd960 (by decide) (by decide)) dX12_token_19 (fun hp11 eh12 H locs hw hS => ?_)
  have ok13 := wr_63000 ok6 kd9 eh12
  refine lv_aload_n hx hb dX12_token_20 rfl (lv_at hl 0 rfl) ?_
  obtain ⟨qa15, eq14, kd16⟩ := rd_13007 ok13 kd900
  refine p_get (ci := 12) (v := .ref qa15) (C := RX12) (T := TX12) (N := 69) hx hb hT iw_X12 hown hK hw hW kd900 (by decide) rfl rfl 7 (by decide) eq14 (hT _ tb_1381) (fun _ h9 => h9) dX12_token_21 ?_
  refine lv_aload_n hx hb dX12_token_24 rfl (lv_at hl 0 rfl) ?_
  have eq17 : hp11 qa900 10 = .int zi960 := Eq.trans (up_at eh12 (Or.inl (kd_ne kd900 kd9 (by decide)))) eq10
  refine p_get (ci := 12) (v := .int zi960) (C := RX12) (T := TX12) (N := 69) hx hb hT iw_X12 hown hK hw hW kd900 (by decide) rfl rfl 10 (by decide) eq17 (hT _ tb_1384) (fun _ h9 => h9) dX12_token_25 ?_
  refine lv_iload_n hx hb dX12_token_28 rfl (lv_at hl 3 rfl) ?_
  refine p_iast (x := zi903) hx hb hK hw hS hW kd16 (by decide) rfl (hW.len kd16 (n := 403) rfl (by decide)) (vp_b bd960 (by decide) (by decide)) dX12_token_29 (fun hp18 eh19 H locs hw hS => ?_)
  have ok20 := wr_64000 ok13 kd16 eh19
  refine lv_aload_n hx hb dX12_token_30 rfl (lv_at hl 0 rfl) ?_
  obtain ⟨qa22, eq21, kd23⟩ := rd_13008 ok20 kd900
  refine p_get (ci := 12) (v := .ref qa22) (C := RX12) (T := TX12) (N := 69) hx hb hT iw_X12 hown hK hw hW kd900 (by decide) rfl rfl 8 (by decide) eq21 (hT _ tb_1382) (fun _ h9 => h9) dX12_token_31 ?_
  refine lv_aload_n hx hb dX12_token_34 rfl (lv_at hl 0 rfl) ?_
  have eq24 : hp18 qa900 10 = .int zi960 := Eq.trans (up_at eh19 (Or.inl (kd_ne kd900 kd16 (by decide)))) eq17
  refine p_get (ci := 12) (v := .int zi960) (C := RX12) (T := TX12) (N := 69) hx hb hT iw_X12 hown hK hw hW kd900 (by decide) rfl rfl 10 (by decide) eq24 (hT _ tb_1384) (fun _ h9 => h9) dX12_token_35 ?_
  refine lv_lload hx hb dX12_token_38 (lv_at hl 4 rfl) ?_
  refine p_last (x := wl904) hx hb hK hw hS hW kd23 (by decide) rfl (hW.len kd23 (n := 403) rfl (by decide)) (vp_b bd960 (by decide) (by decide)) dX12_token_40 (fun hp25 eh26 H locs hw hS => ?_)
  have ok27 := wr_65000 ok20 kd23 eh26
  refine lv_aload_n hx hb dX12_token_41 rfl (lv_at hl 0 rfl) ?_
  refine lv_dup hx hb dX12_token_42 rfl ?_
  have eq28 : hp25 qa900 10 = .int zi960 := Eq.trans (up_at eh26 (Or.inl (kd_ne kd900 kd23 (by decide)))) eq24
  refine p_get (ci := 12) (v := .int zi960) (C := RX12) (T := TX12) (N := 69) hx hb hT iw_X12 hown hK hw hW kd900 (by decide) rfl rfl 10 (by decide) eq28 (hT _ tb_1384) (fun _ h9 => h9) dX12_token_43 ?_
  refine lv_iconst (v := 1) hx hb dX12_token_46 (by decide) ?_
  refine lv_iadd hx hb dX12_token_47 (lv_topi (fun zi29 ea30 => ?_))
  have bd31 : (1 : Int) ≤ zi29.toInt ∧ zi29.toInt ≤ 17 := b_iadd ea30 bd960 bc_1 (by decide) (by decide) (by decide) (by decide)
  have qe32 : zi29.toInt = (zi960 : Int32).toInt + (1 : Int32).toInt := e_iadd ea30 bd960 bc_1 (by decide) (by decide)
  have qe33 : zi29.toInt = zi960.toInt + 1 := by have ha : (1 : Int32).toInt = 1 := (by decide); rw [ha] at qe32; exact qe32
  refine p_put (ci := 12) (v := .int zi29) (ty := .int) (C := RX12) (T := TX12) (N := 69) hx hb hT iw_X12 tyX12 tyX12_ok nmX12 hown hK hw hS hW kd900 (by decide) rfl rfl 10 (by decide) (hT _ tb_1384) (fun _ h9 => h9) rfl (by decide +kernel) rfl rfl dX12_token_48 (fun hp34 eh35 H locs hw hS => ?_)
  have ok36 := wr_13010 bd31 (by decide) (by decide) ok27 kd900 eh35
  rw [hQ]
  exact kz_v hx hb hr hlocks hS hp34 hw ⟨ok36, (Fr.put (cq := 13010) (Fr.put (cq := 65000) (Fr.put (cq := 64000) (Fr.put (cq := 63000) (Fr.put (cq := 62000) (Fr.rf) eh5 kd3 (cd_a (by decide)) (by decide)) eh12 kd9 (cd_a (by decide)) (by decide)) eh19 kd16 (cd_a (by decide)) (by decide)) eh26 kd23 (cd_a (by decide)) (by decide)) eh35 kd900 (cd_o (by decide)) (by decide)), ⟨_, (hp_self eh35), b_wid2 bd31 (by decide) (by decide)⟩, (by simp only [gi_of (hp_self eh35), gi_of eq960]; omega)⟩ (Nat.le_of_ble_eq_true rfl) (Nat.le_of_ble_eq_true rfl) dX12_token_51

set_option maxRecDepth 100000 in
set_option maxHeartbeats 4000000 in
theorem cX12_sign_3 (l : Launch) (G : va_G) (cy : Nat → ClassId) (ev : Ew) (K ln : Nat → Nat) (Ls : List Nat) (hW : SW K ln Ls) (sz : Nat) (hp0 : Nat → Nat → Value) (ok0 : Ok K hp0) (qa900 : Nat) (zi901 : Int32) (zi902 : Int32) (zi903 : Int32) (zi960 : Int32) (kd900 : K qa900 = 13) (eq960 : hp0 qa900 10 = .int zi960) (bd960 : ((0 : Int) ≤ zi960.toInt ∧ zi960.toInt ≤ 16)) : Met l yX12_sign (WS yX12_sign cX12_sign 5 (some .int)) { frames := 1, cells := 0, slots := 0, locals := 25 } (PB2 [.ref qa900, .int zi901, .int zi902, .int zi903] sz G cy ev (va_pl Ls (cellOf cy K ln hp0))) (QBi (S := (Nat → Nat → Value)) (fun (r : Int32) (u : (Nat → Nat → Value)) => Ok K u ∧ Fr [13010, 62000, 63000, 64000, 65000] K hp0 u ∧ ((1 : Int) ≤ r.toInt ∧ r.toInt ≤ 1) ∧ (∃ z : Int32, u qa900 10 = .int z ∧ ((1 : Int) ≤ z.toInt ∧ z.toInt ≤ 17)) ∧ ((gi u qa900 10) = (gi hp0 qa900 10) + 1)) G (fun u => va_pl Ls (cellOf cy K ln u)) (va_A (va_pl Ls (cellOf cy K ln hp0)) sz)) 0 0 (va_A (va_pl Ls (cellOf cy K ln hp0)) sz) := by
  refine met_of2 (y := yX12_sign) (L := 5) (av := [.ref qa900, .int zi901, .int zi902, .int zi903]) (Qc := fun A => QBi (S := (Nat → Nat → Value)) (fun (r : Int32) (u : (Nat → Nat → Value)) => Ok K u ∧ Fr [13010, 62000, 63000, 64000, 65000] K hp0 u ∧ ((1 : Int) ≤ r.toInt ∧ r.toInt ≤ 1) ∧ (∃ z : Int32, u qa900 10 = .int z ∧ ((1 : Int) ≤ z.toInt ∧ z.toInt ≤ 17)) ∧ ((gi u qa900 10) = (gi hp0 qa900 10) + 1)) G (fun u => va_pl Ls (cellOf cy K ln u)) A) (plainFor_of_name (by decide)) (Nat.le_of_ble_eq_true rfl) ?_
  intro p e s m below meth c hsz hx hb hr hml hown hT hlocks hin hK A hA hE hw hS ls hl
  have hw : PW G cy K ln Ls A hp0 s.heap := hw
  have hown : s.vm.findClass "LieClockModel" = some m.cls := hown
  have hl : lv_has ls 5 [(0, .ref qa900), (1, .int zi901), (2, .int zi902), (3, .int zi903)] := hl
  obtain ⟨Q, hQ⟩ : ∃ Q : State → Prop, Q = MQ below (QBi (S := (Nat → Nat → Value)) (fun (r : Int32) (u : (Nat → Nat → Value)) => Ok K u ∧ Fr [13010, 62000, 63000, 64000, 65000] K hp0 u ∧ ((1 : Int) ≤ r.toInt ∧ r.toInt ≤ 1) ∧ (∃ z : Int32, u qa900 10 = .int z ∧ ((1 : Int) ≤ z.toInt ∧ z.toInt ≤ 17)) ∧ ((gi u qa900 10) = (gi hp0 qa900 10) + 1)) G (fun u => va_pl Ls (cellOf cy K ln u)) A) ([.ref qa900, .int zi901, .int zi902, .int zi903] : List Value).toArray s 0 0 A := ⟨_, rfl⟩
  rw [← hQ]
  refine lv_iload_n hx hb dX12_sign_0 rfl (lv_at hl 2 rfl) ?_
  refine lv_bipush (v := 59) hx hb dX12_sign_1 (by decide) ?_
  have jn15 : ∀ (zi13 : Int32) (H : Heap) (locs : List Loc) (ls : Array Slot), ((3 : Int) ≤ zi13.toInt ∧ zi13.toInt ≤ 7) → lv_has ls 5 [(0, .ref qa900), (1, .int zi901), (2, .int zi902)] → PW G cy K ln Ls A hp0 H → va_S A s.heap H locs → W p l e ({ frames := 1, cells := 0, slots := 0, locals := 25 } : Room) s m ([.ref qa900, .int zi901, .int zi902, .int zi903] : List Value).toArray below meth c H locs 0 0 Q (F0 m 43 ls [.int zi13]) := by
    intro zi13 H locs ls bd14 hl hw hS
    refine lv_istore (lv' := [(4, .int zi13), (0, .ref qa900), (1, .int zi901), (2, .int zi902)]) hx hb dX12_sign_43 hl (by decide) rfl (fun ls hl => ?_)
    refine lv_iload_n hx hb dX12_sign_45 rfl (lv_at hl 3 rfl) ?_
    refine lv_bipush (v := 43) hx hb dX12_sign_46 (by decide) ?_
    have jn21 : ∀ (zi19 : Int32) (H : Heap) (locs : List Loc) (ls : Array Slot), ((3 : Int) ≤ zi19.toInt ∧ zi19.toInt ≤ 8) → lv_has ls 5 [(0, .ref qa900), (1, .int zi901), (2, .int zi902), (4, .int zi19)] → PW G cy K ln Ls A hp0 H → va_S A s.heap H locs → W p l e ({ frames := 1, cells := 0, slots := 0, locals := 25 } : Room) s m ([.ref qa900, .int zi901, .int zi902, .int zi903] : List Value).toArray below meth c H locs 0 0 Q (F0 m 55 ls []) := by
      intro zi19 H locs ls bd20 hl hw hS
      refine lv_iload_n hx hb dX12_sign_55 rfl (lv_at hl 2 rfl) ?_
      refine lv_bipush (v := 45) hx hb dX12_sign_56 (by decide) ?_
      have jn27 : ∀ (zi25 : Int32) (H : Heap) (locs : List Loc) (ls : Array Slot), ((3 : Int) ≤ zi25.toInt ∧ zi25.toInt ≤ 9) → lv_has ls 5 [(0, .ref qa900), (1, .int zi901), (2, .int zi902), (4, .int zi25)] → PW G cy K ln Ls A hp0 H → va_S A s.heap H locs → W p l e ({ frames := 1, cells := 0, slots := 0, locals := 25 } : Room) s m ([.ref qa900, .int zi901, .int zi902, .int zi903] : List Value).toArray below meth c H locs 0 0 Q (F0 m 65 ls []) := by
        intro zi25 H locs ls bd26 hl hw hS
        refine lv_iload_n hx hb dX12_sign_65 rfl (lv_at hl 2 rfl) ?_
        refine lv_bipush (v := 42) hx hb dX12_sign_66 (by decide) ?_
        have jn33 : ∀ (zi31 : Int32) (H : Heap) (locs : List Loc) (ls : Array Slot), ((3 : Int) ≤ zi31.toInt ∧ zi31.toInt ≤ 10) → lv_has ls 5 [(0, .ref qa900), (1, .int zi901), (2, .int zi902), (4, .int zi31)] → PW G cy K ln Ls A hp0 H → va_S A s.heap H locs → W p l e ({ frames := 1, cells := 0, slots := 0, locals := 25 } : Room) s m ([.ref qa900, .int zi901, .int zi902, .int zi903] : List Value).toArray below meth c H locs 0 0 Q (F0 m 75 ls []) := by
          intro zi31 H locs ls bd32 hl hw hS
          refine lv_iload_n hx hb dX12_sign_75 rfl (lv_at hl 2 rfl) ?_
          refine lv_bipush (v := 47) hx hb dX12_sign_76 (by decide) ?_
          have jn39 : ∀ (zi37 : Int32) (H : Heap) (locs : List Loc) (ls : Array Slot), ((3 : Int) ≤ zi37.toInt ∧ zi37.toInt ≤ 15) → lv_has ls 5 [(0, .ref qa900), (1, .int zi901), (4, .int zi37)] → PW G cy K ln Ls A hp0 H → va_S A s.heap H locs → W p l e ({ frames := 1, cells := 0, slots := 0, locals := 25 } : Room) s m ([.ref qa900, .int zi901, .int zi902, .int zi903] : List Value).toArray below meth c H locs 0 0 Q (F0 m 85 ls []) := by
            intro zi37 H locs ls bd38 hl hw hS
            refine lv_aload_n hx hb dX12_sign_85 rfl (lv_at hl 0 rfl) ?_
            refine lv_iload hx hb dX12_sign_86 (lv_at hl 2 rfl) ?_
            refine lv_iload_n hx hb dX12_sign_88 rfl (lv_at hl 1 rfl) ?_
            refine lv_iconst (v := 0) hx hb dX12_sign_89 (by decide) ?_
            refine lv_lconst (v := 0) hx hb dX12_sign_90 (by decide) ?_
            refine kq_v hw hS hA (va_runV (As := [.int zi37, .int zi901, .int 0, .long 0]) (rest := []) ⟨hx, hb, hml, hown, hT⟩ (cX12_token_3 l G cy ev K ln Ls hW _ hp0 ok0 qa900 zi37 zi901 0 0 zi960 kd900 eq960 (b_wid2 bd960 (by decide) (by decide))) (cwV 4 hT (good_V tb_1609 tb_1606 tb_1608 tb_50 tb_122) rfl rfl rfl (by decide +kernel) ⟨Nat.le_of_ble_eq_true rfl, Nat.le_of_ble_eq_true rfl⟩) (pool_preV (ci := 12) hK hE hS hA hw hW kd900 (by decide) rfl) rfl rfl hl.1 rfl (lv_room (Nat.le_of_ble_eq_true rfl)) dX12_sign_91 ⟨Nat.le_of_ble_eq_true rfl, Nat.le_of_ble_eq_true rfl⟩) (fun hp40 H locs hq43 hw hS => ?_)
            obtain ⟨ok41, F42, ⟨zi45, eq46, bd47⟩, rh48⟩ := hq43
            have hw : PW G cy K ln Ls A hp40 H := hw
            simp only [gi_of eq46, gi_of eq960] at rh48
            refine lv_iconst (v := 1) hx hb dX12_sign_94 (by decide) ?_
            rw [hQ]
            exact kz_i hx hb hr hlocks hS rfl hp40 hw ⟨ok41, (Fr.tr (Fr.rf) F42 (by decide)), (b_wid2 bc_1 (by decide) (by decide)), ⟨_, eq46, b_wid2 bd47 (by decide) (by decide)⟩, (by simp only [gi_of eq46, gi_of eq960]; omega)⟩ (Nat.le_of_ble_eq_true rfl) (Nat.le_of_ble_eq_true rfl) dX12_sign_95
          refine lv_icmp_ne (tgt := 85) hx hb dX12_sign_78 (by decide) (fun cn34 => ?_) (fun cn34 => ?_)
          · skip
            have tf49 : (zi902 : Int32).toInt ≠ (47 : Int32).toInt := fun e => cn34 (Int32.toInt_inj.mp e)
            have := toi bc_47
            exact jn39 zi31 _ _ ls (b_wid2 bd32 (by decide) (by decide)) (lv_sub hl [0, 1, 3] rfl) hw hS
          · skip
            have bd50 : (47 : Int) ≤ zi902.toInt ∧ zi902.toInt ≤ 47 := r_eq_x cn34 (b_all zi902) bc_47 (by decide) (by decide)
            refine lv_bipush (v := 15) hx hb dX12_sign_81 (by decide) ?_
            refine lv_istore (lv' := [(4, .int 15), (0, .ref qa900), (1, .int zi901), (2, .int zi902)]) hx hb dX12_sign_83 hl (by decide) rfl (fun ls hl => ?_)
            exact jn39 15 _ _ ls (b_wid2 bc_15 (by decide) (by decide)) (lv_sub hl [1, 2, 0] rfl) hw hS
        refine lv_icmp_ne (tgt := 75) hx hb dX12_sign_68 (by decide) (fun cn28 => ?_) (fun cn28 => ?_)
        · skip
          have tf51 : (zi902 : Int32).toInt ≠ (42 : Int32).toInt := fun e => cn28 (Int32.toInt_inj.mp e)
          have := toi bc_42
          exact jn33 zi25 _ _ ls (b_wid2 bd26 (by decide) (by decide)) (lv_sub hl [0, 1, 2, 3] rfl) hw hS
        · skip
          have bd52 : (42 : Int) ≤ zi902.toInt ∧ zi902.toInt ≤ 42 := r_eq_x cn28 (b_all zi902) bc_42 (by decide) (by decide)
          refine lv_bipush (v := 10) hx hb dX12_sign_71 (by decide) ?_
          refine lv_istore (lv' := [(4, .int 10), (0, .ref qa900), (1, .int zi901), (2, .int zi902)]) hx hb dX12_sign_73 hl (by decide) rfl (fun ls hl => ?_)
          exact jn33 10 _ _ ls (b_wid2 bc_10 (by decide) (by decide)) (lv_sub hl [1, 2, 3, 0] rfl) hw hS
      refine lv_icmp_ne (tgt := 65) hx hb dX12_sign_58 (by decide) (fun cn22 => ?_) (fun cn22 => ?_)
      · skip
        have tf53 : (zi902 : Int32).toInt ≠ (45 : Int32).toInt := fun e => cn22 (Int32.toInt_inj.mp e)
        have := toi bc_45
        exact jn27 zi19 _ _ ls (b_wid2 bd20 (by decide) (by decide)) (lv_sub hl [0, 1, 2, 3] rfl) hw hS
      · skip
        have bd54 : (45 : Int) ≤ zi902.toInt ∧ zi902.toInt ≤ 45 := r_eq_x cn22 (b_all zi902) bc_45 (by decide) (by decide)
        refine lv_bipush (v := 9) hx hb dX12_sign_61 (by decide) ?_
        refine lv_istore (lv' := [(4, .int 9), (0, .ref qa900), (1, .int zi901), (2, .int zi902)]) hx hb dX12_sign_63 hl (by decide) rfl (fun ls hl => ?_)
        exact jn27 9 _ _ ls (b_wid2 bc_9 (by decide) (by decide)) (lv_sub hl [1, 2, 3, 0] rfl) hw hS
    refine lv_icmp_ne (tgt := 55) hx hb dX12_sign_48 (by decide) (fun cn16 => ?_) (fun cn16 => ?_)
    · skip
      have tf55 : (zi902 : Int32).toInt ≠ (43 : Int32).toInt := fun e => cn16 (Int32.toInt_inj.mp e)
      have := toi bc_43
      exact jn21 zi13 _ _ ls (b_wid2 bd14 (by decide) (by decide)) (lv_sub hl [1, 2, 3, 0] rfl) hw hS
    · skip
      have bd56 : (43 : Int) ≤ zi902.toInt ∧ zi902.toInt ≤ 43 := r_eq_x cn16 (b_all zi902) bc_43 (by decide) (by decide)
      refine lv_bipush (v := 8) hx hb dX12_sign_51 (by decide) ?_
      refine lv_istore (lv' := [(4, .int 8), (0, .ref qa900), (1, .int zi901), (2, .int zi902)]) hx hb dX12_sign_53 hl (by decide) rfl (fun ls hl => ?_)
      exact jn21 8 _ _ ls (b_wid2 bc_8 (by decide) (by decide)) (lv_sub hl [1, 2, 3, 0] rfl) hw hS
  refine lv_icmp_ne (tgt := 10) hx hb dX12_sign_3 (by decide) (fun cn1 => ?_) (fun cn1 => ?_)
  · skip
    have tf57 : (zi902 : Int32).toInt ≠ (59 : Int32).toInt := fun e => cn1 (Int32.toInt_inj.mp e)
    have := toi bc_59
    refine lv_iload_n hx hb dX12_sign_10 rfl (lv_at hl 2 rfl) ?_
    refine lv_bipush (v := 61) hx hb dX12_sign_11 (by decide) ?_
    refine lv_icmp_ne (tgt := 20) hx hb dX12_sign_13 (by decide) (fun cn58 => ?_) (fun cn58 => ?_)
    · skip
      have tf59 : (zi902 : Int32).toInt ≠ (61 : Int32).toInt := fun e => cn58 (Int32.toInt_inj.mp e)
      have := toi bc_61
      refine lv_iload_n hx hb dX12_sign_20 rfl (lv_at hl 2 rfl) ?_
      refine lv_bipush (v := 40) hx hb dX12_sign_21 (by decide) ?_
      refine lv_icmp_ne (tgt := 31) hx hb dX12_sign_23 (by decide) (fun cn60 => ?_) (fun cn60 => ?_)
      · skip
        have tf61 : (zi902 : Int32).toInt ≠ (40 : Int32).toInt := fun e => cn60 (Int32.toInt_inj.mp e)
        have := toi bc_40
        refine lv_iload_n hx hb dX12_sign_31 rfl (lv_at hl 2 rfl) ?_
        refine lv_bipush (v := 41) hx hb dX12_sign_32 (by decide) ?_
        refine lv_icmp_ne (tgt := 42) hx hb dX12_sign_34 (by decide) (fun cn62 => ?_) (fun cn62 => ?_)
        · skip
          have tf63 : (zi902 : Int32).toInt ≠ (41 : Int32).toInt := fun e => cn62 (Int32.toInt_inj.mp e)
          have := toi bc_41
          refine lv_iconst (v := 3) hx hb dX12_sign_42 (by decide) ?_
          exact jn15 3 _ _ ls (b_wid2 bc_3 (by decide) (by decide)) (lv_sub hl [0, 1, 2] rfl) hw hS
        · skip
          have bd64 : (41 : Int) ≤ zi902.toInt ∧ zi902.toInt ≤ 41 := r_eq_x cn62 (b_all zi902) bc_41 (by decide) (by decide)
          refine lv_bipush (v := 7) hx hb dX12_sign_37 (by decide) ?_
          refine lv_goto (tgt := 43) hx hb dX12_sign_39 (by decide) ?_
          exact jn15 7 _ _ ls (b_wid2 bc_7 (by decide) (by decide)) (lv_sub hl [0, 1, 2] rfl) hw hS
      · skip
        have bd65 : (40 : Int) ≤ zi902.toInt ∧ zi902.toInt ≤ 40 := r_eq_x cn60 (b_all zi902) bc_40 (by decide) (by decide)
        refine lv_bipush (v := 6) hx hb dX12_sign_26 (by decide) ?_
        refine lv_goto (tgt := 43) hx hb dX12_sign_28 (by decide) ?_
        exact jn15 6 _ _ ls (b_wid2 bc_6 (by decide) (by decide)) (lv_sub hl [0, 1, 2] rfl) hw hS
    · skip
      have bd66 : (61 : Int) ≤ zi902.toInt ∧ zi902.toInt ≤ 61 := r_eq_x cn58 (b_all zi902) bc_61 (by decide) (by decide)
      refine lv_iconst (v := 5) hx hb dX12_sign_16 (by decide) ?_
      refine lv_goto (tgt := 43) hx hb dX12_sign_17 (by decide) ?_
      exact jn15 5 _ _ ls (b_wid2 bc_5 (by decide) (by decide)) (lv_sub hl [0, 1, 2] rfl) hw hS
  · skip
    have bd67 : (59 : Int) ≤ zi902.toInt ∧ zi902.toInt ≤ 59 := r_eq_x cn1 (b_all zi902) bc_59 (by decide) (by decide)
    refine lv_iconst (v := 4) hx hb dX12_sign_6 (by decide) ?_
    refine lv_goto (tgt := 43) hx hb dX12_sign_7 (by decide) ?_
    exact jn15 4 _ _ ls (b_wid2 bc_4 (by decide) (by decide)) (lv_sub hl [0, 1, 2] rfl) hw hS

set_option maxRecDepth 100000 in
set_option maxHeartbeats 4000000 in
theorem cX12_token_4 (l : Launch) (G : va_G) (cy : Nat → ClassId) (ev : Ew) (K ln : Nat → Nat) (Ls : List Nat) (hW : SW K ln Ls) (sz : Nat) (hp0 : Nat → Nat → Value) (ok0 : Ok K hp0) (qa900 : Nat) (zi901 : Int32) (zi902 : Int32) (zi903 : Int32) (wl904 : Int64) (zi960 : Int32) (kd900 : K qa900 = 13) (eq960 : hp0 qa900 10 = .int zi960) (bd960 : ((0 : Int) ≤ zi960.toInt ∧ zi960.toInt ≤ 64)) : Met l yX12_token (WS yX12_token cX12_token 6 none) { frames := 0, cells := 0, slots := 0, locals := 0 } (PB2 [.ref qa900, .int zi901, .int zi902, .int zi903, .long wl904] sz G cy ev (va_pl Ls (cellOf cy K ln hp0))) (QBv (S := (Nat → Nat → Value)) (fun u : (Nat → Nat → Value) => Ok K u ∧ Fr [13010, 62000, 63000, 64000, 65000] K hp0 u ∧ (∃ z : Int32, u qa900 10 = .int z ∧ ((1 : Int) ≤ z.toInt ∧ z.toInt ≤ 65)) ∧ ((gi u qa900 10) = (gi hp0 qa900 10) + 1)) G (fun u => va_pl Ls (cellOf cy K ln u)) (va_A (va_pl Ls (cellOf cy K ln hp0)) sz)) 0 0 (va_A (va_pl Ls (cellOf cy K ln hp0)) sz) := by
  refine met_of2 (y := yX12_token) (L := 6) (av := [.ref qa900, .int zi901, .int zi902, .int zi903, .long wl904]) (Qc := fun A => QBv (S := (Nat → Nat → Value)) (fun u : (Nat → Nat → Value) => Ok K u ∧ Fr [13010, 62000, 63000, 64000, 65000] K hp0 u ∧ (∃ z : Int32, u qa900 10 = .int z ∧ ((1 : Int) ≤ z.toInt ∧ z.toInt ≤ 65)) ∧ ((gi u qa900 10) = (gi hp0 qa900 10) + 1)) G (fun u => va_pl Ls (cellOf cy K ln u)) A) (plainFor_of_name (by decide)) (Nat.le_of_ble_eq_true rfl) ?_
  intro p e s m below meth c hsz hx hb hr hml hown hT hlocks hin hK A hA hE hw hS ls hl
  have hw : PW G cy K ln Ls A hp0 s.heap := hw
  have hown : s.vm.findClass "LieClockModel" = some m.cls := hown
  have hl : lv_has ls 6 [(0, .ref qa900), (1, .int zi901), (2, .int zi902), (3, .int zi903), (4, .long wl904)] := hl
  obtain ⟨Q, hQ⟩ : ∃ Q : State → Prop, Q = MQ below (QBv (S := (Nat → Nat → Value)) (fun u : (Nat → Nat → Value) => Ok K u ∧ Fr [13010, 62000, 63000, 64000, 65000] K hp0 u ∧ (∃ z : Int32, u qa900 10 = .int z ∧ ((1 : Int) ≤ z.toInt ∧ z.toInt ≤ 65)) ∧ ((gi u qa900 10) = (gi hp0 qa900 10) + 1)) G (fun u => va_pl Ls (cellOf cy K ln u)) A) ([.ref qa900, .int zi901, .int zi902, .int zi903, .long wl904] : List Value).toArray s 0 0 A := ⟨_, rfl⟩
  rw [← hQ]
  refine lv_aload_n hx hb dX12_token_0 rfl (lv_at hl 0 rfl) ?_
  obtain ⟨qa2, eq1, kd3⟩ := rd_13005 ok0 kd900
  refine p_get (ci := 12) (v := .ref qa2) (C := RX12) (T := TX12) (N := 69) hx hb hT iw_X12 hown hK hw hW kd900 (by decide) rfl rfl 5 (by decide) eq1 (hT _ tb_1379) (fun _ h9 => h9) dX12_token_1 ?_
  refine lv_aload_n hx hb dX12_token_4 rfl (lv_at hl 0 rfl) ?_
  refine p_get (ci := 12) (v := .int zi960) (C := RX12) (T := TX12) (N := 69) hx hb hT iw_X12 hown hK hw hW kd900 (by decide) rfl rfl 10 (by decide) eq960 (hT _ tb_1384) (fun _ h9 => h9) dX12_token_5 ?_
  refine lv_iload_n hx hb dX12_token_8 rfl (lv_at hl 1 rfl) ?_
  refine p_iast (x := zi901) hx hb hK hw hS hW kd3 (by decide) rfl (hW.len kd3 (n := 403) rfl (by decide)) (vp_b bd960 (by decide) (by decide)) dX12_token_9 (fun hp4 eh5 H locs hw hS => ?_)
  have ok6 := wr_62000 ok0 kd3 eh5
  refine lv_aload_n hx hb dX12_token_10 rfl (lv_at hl 0 rfl) ?_
  obtain ⟨qa8, eq7, kd9⟩ := rd_13006 ok6 kd900
  refine p_get (ci := 12) (v := .ref qa8) (C := RX12) (T := TX12) (N := 69) hx hb hT iw_X12 hown hK hw hW kd900 (by decide) rfl rfl 6 (by decide) eq7 (hT _ tb_1380) (fun _ h9 => h9) dX12_token_11 ?_
  refine lv_aload_n hx hb dX12_token_14 rfl (lv_at hl 0 rfl) ?_
  have eq10 : hp4 qa900 10 = .int zi960 := Eq.trans (up_at eh5 (Or.inl (kd_ne kd900 kd3 (by decide)))) eq960
  refine p_get (ci := 12) (v := .int zi960) (C := RX12) (T := TX12) (N := 69) hx hb hT iw_X12 hown hK hw hW kd900 (by decide) rfl rfl 10 (by decide) eq10 (hT _ tb_1384) (fun _ h9 => h9) dX12_token_15 ?_
  refine lv_iload_n hx hb dX12_token_18 rfl (lv_at hl 2 rfl) ?_
  refine p_iast (x := zi902) hx hb hK hw hS hW kd9 (by decide) rfl (hW.len kd9 (n := 403) rfl (by decide)) (vp_b bd960 (by decide) (by decide)) dX12_token_19 (fun hp11 eh12 H locs hw hS => ?_)
  have ok13 := wr_63000 ok6 kd9 eh12
  refine lv_aload_n hx hb dX12_token_20 rfl (lv_at hl 0 rfl) ?_
  obtain ⟨qa15, eq14, kd16⟩ := rd_13007 ok13 kd900
  refine p_get (ci := 12) (v := .ref qa15) (C := RX12) (T := TX12) (N := 69) hx hb hT iw_X12 hown hK hw hW kd900 (by decide) rfl rfl 7 (by decide) eq14 (hT _ tb_1381) (fun _ h9 => h9) dX12_token_21 ?_
  refine lv_aload_n hx hb dX12_token_24 rfl (lv_at hl 0 rfl) ?_
  have eq17 : hp11 qa900 10 = .int zi960 := Eq.trans (up_at eh12 (Or.inl (kd_ne kd900 kd9 (by decide)))) eq10
  refine p_get (ci := 12) (v := .int zi960) (C := RX12) (T := TX12) (N := 69) hx hb hT iw_X12 hown hK hw hW kd900 (by decide) rfl rfl 10 (by decide) eq17 (hT _ tb_1384) (fun _ h9 => h9) dX12_token_25 ?_
  refine lv_iload_n hx hb dX12_token_28 rfl (lv_at hl 3 rfl) ?_
  refine p_iast (x := zi903) hx hb hK hw hS hW kd16 (by decide) rfl (hW.len kd16 (n := 403) rfl (by decide)) (vp_b bd960 (by decide) (by decide)) dX12_token_29 (fun hp18 eh19 H locs hw hS => ?_)
  have ok20 := wr_64000 ok13 kd16 eh19
  refine lv_aload_n hx hb dX12_token_30 rfl (lv_at hl 0 rfl) ?_
  obtain ⟨qa22, eq21, kd23⟩ := rd_13008 ok20 kd900
  refine p_get (ci := 12) (v := .ref qa22) (C := RX12) (T := TX12) (N := 69) hx hb hT iw_X12 hown hK hw hW kd900 (by decide) rfl rfl 8 (by decide) eq21 (hT _ tb_1382) (fun _ h9 => h9) dX12_token_31 ?_
  refine lv_aload_n hx hb dX12_token_34 rfl (lv_at hl 0 rfl) ?_
  have eq24 : hp18 qa900 10 = .int zi960 := Eq.trans (up_at eh19 (Or.inl (kd_ne kd900 kd16 (by decide)))) eq17
  refine p_get (ci := 12) (v := .int zi960) (C := RX12) (T := TX12) (N := 69) hx hb hT iw_X12 hown hK hw hW kd900 (by decide) rfl rfl 10 (by decide) eq24 (hT _ tb_1384) (fun _ h9 => h9) dX12_token_35 ?_
  refine lv_lload hx hb dX12_token_38 (lv_at hl 4 rfl) ?_
  refine p_last (x := wl904) hx hb hK hw hS hW kd23 (by decide) rfl (hW.len kd23 (n := 403) rfl (by decide)) (vp_b bd960 (by decide) (by decide)) dX12_token_40 (fun hp25 eh26 H locs hw hS => ?_)
  have ok27 := wr_65000 ok20 kd23 eh26
  refine lv_aload_n hx hb dX12_token_41 rfl (lv_at hl 0 rfl) ?_
  refine lv_dup hx hb dX12_token_42 rfl ?_
  have eq28 : hp25 qa900 10 = .int zi960 := Eq.trans (up_at eh26 (Or.inl (kd_ne kd900 kd23 (by decide)))) eq24
  refine p_get (ci := 12) (v := .int zi960) (C := RX12) (T := TX12) (N := 69) hx hb hT iw_X12 hown hK hw hW kd900 (by decide) rfl rfl 10 (by decide) eq28 (hT _ tb_1384) (fun _ h9 => h9) dX12_token_43 ?_
  refine lv_iconst (v := 1) hx hb dX12_token_46 (by decide) ?_
  refine lv_iadd hx hb dX12_token_47 (lv_topi (fun zi29 ea30 => ?_))
  have bd31 : (1 : Int) ≤ zi29.toInt ∧ zi29.toInt ≤ 65 := b_iadd ea30 bd960 bc_1 (by decide) (by decide) (by decide) (by decide)
  have qe32 : zi29.toInt = (zi960 : Int32).toInt + (1 : Int32).toInt := e_iadd ea30 bd960 bc_1 (by decide) (by decide)
  have qe33 : zi29.toInt = zi960.toInt + 1 := by have ha : (1 : Int32).toInt = 1 := (by decide); rw [ha] at qe32; exact qe32
  refine p_put (ci := 12) (v := .int zi29) (ty := .int) (C := RX12) (T := TX12) (N := 69) hx hb hT iw_X12 tyX12 tyX12_ok nmX12 hown hK hw hS hW kd900 (by decide) rfl rfl 10 (by decide) (hT _ tb_1384) (fun _ h9 => h9) rfl (by decide +kernel) rfl rfl dX12_token_48 (fun hp34 eh35 H locs hw hS => ?_)
  have ok36 := wr_13010 bd31 (by decide) (by decide) ok27 kd900 eh35
  rw [hQ]
  exact kz_v hx hb hr hlocks hS hp34 hw ⟨ok36, (Fr.put (cq := 13010) (Fr.put (cq := 65000) (Fr.put (cq := 64000) (Fr.put (cq := 63000) (Fr.put (cq := 62000) (Fr.rf) eh5 kd3 (cd_a (by decide)) (by decide)) eh12 kd9 (cd_a (by decide)) (by decide)) eh19 kd16 (cd_a (by decide)) (by decide)) eh26 kd23 (cd_a (by decide)) (by decide)) eh35 kd900 (cd_o (by decide)) (by decide)), ⟨_, (hp_self eh35), b_wid2 bd31 (by decide) (by decide)⟩, (by simp only [gi_of (hp_self eh35), gi_of eq960]; omega)⟩ (Nat.le_of_ble_eq_true rfl) (Nat.le_of_ble_eq_true rfl) dX12_token_51

set_option maxRecDepth 100000 in
set_option maxHeartbeats 4000000 in
theorem cX12_sign_4 (l : Launch) (G : va_G) (cy : Nat → ClassId) (ev : Ew) (K ln : Nat → Nat) (Ls : List Nat) (hW : SW K ln Ls) (sz : Nat) (hp0 : Nat → Nat → Value) (ok0 : Ok K hp0) (qa900 : Nat) (zi901 : Int32) (zi902 : Int32) (zi903 : Int32) (zi960 : Int32) (kd900 : K qa900 = 13) (eq960 : hp0 qa900 10 = .int zi960) (bd960 : ((0 : Int) ≤ zi960.toInt ∧ zi960.toInt ≤ 64)) : Met l yX12_sign (WS yX12_sign cX12_sign 5 (some .int)) { frames := 1, cells := 0, slots := 0, locals := 25 } (PB2 [.ref qa900, .int zi901, .int zi902, .int zi903] sz G cy ev (va_pl Ls (cellOf cy K ln hp0))) (QBi (S := (Nat → Nat → Value)) (fun (r : Int32) (u : (Nat → Nat → Value)) => Ok K u ∧ Fr [13010, 62000, 63000, 64000, 65000] K hp0 u ∧ ((1 : Int) ≤ r.toInt ∧ r.toInt ≤ 1) ∧ (∃ z : Int32, u qa900 10 = .int z ∧ ((1 : Int) ≤ z.toInt ∧ z.toInt ≤ 65)) ∧ ((gi u qa900 10) = (gi hp0 qa900 10) + 1)) G (fun u => va_pl Ls (cellOf cy K ln u)) (va_A (va_pl Ls (cellOf cy K ln hp0)) sz)) 0 0 (va_A (va_pl Ls (cellOf cy K ln hp0)) sz) := by
  refine met_of2 (y := yX12_sign) (L := 5) (av := [.ref qa900, .int zi901, .int zi902, .int zi903]) (Qc := fun A => QBi (S := (Nat → Nat → Value)) (fun (r : Int32) (u : (Nat → Nat → Value)) => Ok K u ∧ Fr [13010, 62000, 63000, 64000, 65000] K hp0 u ∧ ((1 : Int) ≤ r.toInt ∧ r.toInt ≤ 1) ∧ (∃ z : Int32, u qa900 10 = .int z ∧ ((1 : Int) ≤ z.toInt ∧ z.toInt ≤ 65)) ∧ ((gi u qa900 10) = (gi hp0 qa900 10) + 1)) G (fun u => va_pl Ls (cellOf cy K ln u)) A) (plainFor_of_name (by decide)) (Nat.le_of_ble_eq_true rfl) ?_
  intro p e s m below meth c hsz hx hb hr hml hown hT hlocks hin hK A hA hE hw hS ls hl
  have hw : PW G cy K ln Ls A hp0 s.heap := hw
  have hown : s.vm.findClass "LieClockModel" = some m.cls := hown
  have hl : lv_has ls 5 [(0, .ref qa900), (1, .int zi901), (2, .int zi902), (3, .int zi903)] := hl
  obtain ⟨Q, hQ⟩ : ∃ Q : State → Prop, Q = MQ below (QBi (S := (Nat → Nat → Value)) (fun (r : Int32) (u : (Nat → Nat → Value)) => Ok K u ∧ Fr [13010, 62000, 63000, 64000, 65000] K hp0 u ∧ ((1 : Int) ≤ r.toInt ∧ r.toInt ≤ 1) ∧ (∃ z : Int32, u qa900 10 = .int z ∧ ((1 : Int) ≤ z.toInt ∧ z.toInt ≤ 65)) ∧ ((gi u qa900 10) = (gi hp0 qa900 10) + 1)) G (fun u => va_pl Ls (cellOf cy K ln u)) A) ([.ref qa900, .int zi901, .int zi902, .int zi903] : List Value).toArray s 0 0 A := ⟨_, rfl⟩
  rw [← hQ]
  refine lv_iload_n hx hb dX12_sign_0 rfl (lv_at hl 2 rfl) ?_
  refine lv_bipush (v := 59) hx hb dX12_sign_1 (by decide) ?_
  have jn15 : ∀ (zi13 : Int32) (H : Heap) (locs : List Loc) (ls : Array Slot), ((3 : Int) ≤ zi13.toInt ∧ zi13.toInt ≤ 7) → lv_has ls 5 [(0, .ref qa900), (1, .int zi901), (2, .int zi902)] → PW G cy K ln Ls A hp0 H → va_S A s.heap H locs → W p l e ({ frames := 1, cells := 0, slots := 0, locals := 25 } : Room) s m ([.ref qa900, .int zi901, .int zi902, .int zi903] : List Value).toArray below meth c H locs 0 0 Q (F0 m 43 ls [.int zi13]) := by
    intro zi13 H locs ls bd14 hl hw hS
    refine lv_istore (lv' := [(4, .int zi13), (0, .ref qa900), (1, .int zi901), (2, .int zi902)]) hx hb dX12_sign_43 hl (by decide) rfl (fun ls hl => ?_)
    refine lv_iload_n hx hb dX12_sign_45 rfl (lv_at hl 3 rfl) ?_
    refine lv_bipush (v := 43) hx hb dX12_sign_46 (by decide) ?_
    have jn21 : ∀ (zi19 : Int32) (H : Heap) (locs : List Loc) (ls : Array Slot), ((3 : Int) ≤ zi19.toInt ∧ zi19.toInt ≤ 8) → lv_has ls 5 [(0, .ref qa900), (1, .int zi901), (2, .int zi902), (4, .int zi19)] → PW G cy K ln Ls A hp0 H → va_S A s.heap H locs → W p l e ({ frames := 1, cells := 0, slots := 0, locals := 25 } : Room) s m ([.ref qa900, .int zi901, .int zi902, .int zi903] : List Value).toArray below meth c H locs 0 0 Q (F0 m 55 ls []) := by
      intro zi19 H locs ls bd20 hl hw hS
      refine lv_iload_n hx hb dX12_sign_55 rfl (lv_at hl 2 rfl) ?_
      refine lv_bipush (v := 45) hx hb dX12_sign_56 (by decide) ?_
      have jn27 : ∀ (zi25 : Int32) (H : Heap) (locs : List Loc) (ls : Array Slot), ((3 : Int) ≤ zi25.toInt ∧ zi25.toInt ≤ 9) → lv_has ls 5 [(0, .ref qa900), (1, .int zi901), (2, .int zi902), (4, .int zi25)] → PW G cy K ln Ls A hp0 H → va_S A s.heap H locs → W p l e ({ frames := 1, cells := 0, slots := 0, locals := 25 } : Room) s m ([.ref qa900, .int zi901, .int zi902, .int zi903] : List Value).toArray below meth c H locs 0 0 Q (F0 m 65 ls []) := by
        intro zi25 H locs ls bd26 hl hw hS
        refine lv_iload_n hx hb dX12_sign_65 rfl (lv_at hl 2 rfl) ?_
        refine lv_bipush (v := 42) hx hb dX12_sign_66 (by decide) ?_
        have jn33 : ∀ (zi31 : Int32) (H : Heap) (locs : List Loc) (ls : Array Slot), ((3 : Int) ≤ zi31.toInt ∧ zi31.toInt ≤ 10) → lv_has ls 5 [(0, .ref qa900), (1, .int zi901), (2, .int zi902), (4, .int zi31)] → PW G cy K ln Ls A hp0 H → va_S A s.heap H locs → W p l e ({ frames := 1, cells := 0, slots := 0, locals := 25 } : Room) s m ([.ref qa900, .int zi901, .int zi902, .int zi903] : List Value).toArray below meth c H locs 0 0 Q (F0 m 75 ls []) := by
          intro zi31 H locs ls bd32 hl hw hS
          refine lv_iload_n hx hb dX12_sign_75 rfl (lv_at hl 2 rfl) ?_
          refine lv_bipush (v := 47) hx hb dX12_sign_76 (by decide) ?_
          have jn39 : ∀ (zi37 : Int32) (H : Heap) (locs : List Loc) (ls : Array Slot), ((3 : Int) ≤ zi37.toInt ∧ zi37.toInt ≤ 15) → lv_has ls 5 [(0, .ref qa900), (1, .int zi901), (4, .int zi37)] → PW G cy K ln Ls A hp0 H → va_S A s.heap H locs → W p l e ({ frames := 1, cells := 0, slots := 0, locals := 25 } : Room) s m ([.ref qa900, .int zi901, .int zi902, .int zi903] : List Value).toArray below meth c H locs 0 0 Q (F0 m 85 ls []) := by
            intro zi37 H locs ls bd38 hl hw hS
            refine lv_aload_n hx hb dX12_sign_85 rfl (lv_at hl 0 rfl) ?_
            refine lv_iload hx hb dX12_sign_86 (lv_at hl 2 rfl) ?_
            refine lv_iload_n hx hb dX12_sign_88 rfl (lv_at hl 1 rfl) ?_
            refine lv_iconst (v := 0) hx hb dX12_sign_89 (by decide) ?_
            refine lv_lconst (v := 0) hx hb dX12_sign_90 (by decide) ?_
            refine kq_v hw hS hA (va_runV (As := [.int zi37, .int zi901, .int 0, .long 0]) (rest := []) ⟨hx, hb, hml, hown, hT⟩ (cX12_token_4 l G cy ev K ln Ls hW _ hp0 ok0 qa900 zi37 zi901 0 0 zi960 kd900 eq960 (b_wid2 bd960 (by decide) (by decide))) (cwV 4 hT (good_V tb_1609 tb_1606 tb_1608 tb_50 tb_122) rfl rfl rfl (by decide +kernel) ⟨Nat.le_of_ble_eq_true rfl, Nat.le_of_ble_eq_true rfl⟩) (pool_preV (ci := 12) hK hE hS hA hw hW kd900 (by decide) rfl) rfl rfl hl.1 rfl (lv_room (Nat.le_of_ble_eq_true rfl)) dX12_sign_91 ⟨Nat.le_of_ble_eq_true rfl, Nat.le_of_ble_eq_true rfl⟩) (fun hp40 H locs hq43 hw hS => ?_)
            obtain ⟨ok41, F42, ⟨zi45, eq46, bd47⟩, rh48⟩ := hq43
            have hw : PW G cy K ln Ls A hp40 H := hw
            simp only [gi_of eq46, gi_of eq960] at rh48
            refine lv_iconst (v := 1) hx hb dX12_sign_94 (by decide) ?_
            rw [hQ]
            exact kz_i hx hb hr hlocks hS rfl hp40 hw ⟨ok41, (Fr.tr (Fr.rf) F42 (by decide)), (b_wid2 bc_1 (by decide) (by decide)), ⟨_, eq46, b_wid2 bd47 (by decide) (by decide)⟩, (by simp only [gi_of eq46, gi_of eq960]; omega)⟩ (Nat.le_of_ble_eq_true rfl) (Nat.le_of_ble_eq_true rfl) dX12_sign_95
          refine lv_icmp_ne (tgt := 85) hx hb dX12_sign_78 (by decide) (fun cn34 => ?_) (fun cn34 => ?_)
          · skip
            have tf49 : (zi902 : Int32).toInt ≠ (47 : Int32).toInt := fun e => cn34 (Int32.toInt_inj.mp e)
            have := toi bc_47
            exact jn39 zi31 _ _ ls (b_wid2 bd32 (by decide) (by decide)) (lv_sub hl [0, 1, 3] rfl) hw hS
          · skip
            have bd50 : (47 : Int) ≤ zi902.toInt ∧ zi902.toInt ≤ 47 := r_eq_x cn34 (b_all zi902) bc_47 (by decide) (by decide)
            refine lv_bipush (v := 15) hx hb dX12_sign_81 (by decide) ?_
            refine lv_istore (lv' := [(4, .int 15), (0, .ref qa900), (1, .int zi901), (2, .int zi902)]) hx hb dX12_sign_83 hl (by decide) rfl (fun ls hl => ?_)
            exact jn39 15 _ _ ls (b_wid2 bc_15 (by decide) (by decide)) (lv_sub hl [1, 2, 0] rfl) hw hS
        refine lv_icmp_ne (tgt := 75) hx hb dX12_sign_68 (by decide) (fun cn28 => ?_) (fun cn28 => ?_)
        · skip
          have tf51 : (zi902 : Int32).toInt ≠ (42 : Int32).toInt := fun e => cn28 (Int32.toInt_inj.mp e)
          have := toi bc_42
          exact jn33 zi25 _ _ ls (b_wid2 bd26 (by decide) (by decide)) (lv_sub hl [0, 1, 2, 3] rfl) hw hS
        · skip
          have bd52 : (42 : Int) ≤ zi902.toInt ∧ zi902.toInt ≤ 42 := r_eq_x cn28 (b_all zi902) bc_42 (by decide) (by decide)
          refine lv_bipush (v := 10) hx hb dX12_sign_71 (by decide) ?_
          refine lv_istore (lv' := [(4, .int 10), (0, .ref qa900), (1, .int zi901), (2, .int zi902)]) hx hb dX12_sign_73 hl (by decide) rfl (fun ls hl => ?_)
          exact jn33 10 _ _ ls (b_wid2 bc_10 (by decide) (by decide)) (lv_sub hl [1, 2, 3, 0] rfl) hw hS
      refine lv_icmp_ne (tgt := 65) hx hb dX12_sign_58 (by decide) (fun cn22 => ?_) (fun cn22 => ?_)
      · skip
        have tf53 : (zi902 : Int32).toInt ≠ (45 : Int32).toInt := fun e => cn22 (Int32.toInt_inj.mp e)
        have := toi bc_45
        exact jn27 zi19 _ _ ls (b_wid2 bd20 (by decide) (by decide)) (lv_sub hl [0, 1, 2, 3] rfl) hw hS
      · skip
        have bd54 : (45 : Int) ≤ zi902.toInt ∧ zi902.toInt ≤ 45 := r_eq_x cn22 (b_all zi902) bc_45 (by decide) (by decide)
        refine lv_bipush (v := 9) hx hb dX12_sign_61 (by decide) ?_
        refine lv_istore (lv' := [(4, .int 9), (0, .ref qa900), (1, .int zi901), (2, .int zi902)]) hx hb dX12_sign_63 hl (by decide) rfl (fun ls hl => ?_)
        exact jn27 9 _ _ ls (b_wid2 bc_9 (by decide) (by decide)) (lv_sub hl [1, 2, 3, 0] rfl) hw hS
    refine lv_icmp_ne (tgt := 55) hx hb dX12_sign_48 (by decide) (fun cn16 => ?_) (fun cn16 => ?_)
    · skip
      have tf55 : (zi902 : Int32).toInt ≠ (43 : Int32).toInt := fun e => cn16 (Int32.toInt_inj.mp e)
      have := toi bc_43
      exact jn21 zi13 _ _ ls (b_wid2 bd14 (by decide) (by decide)) (lv_sub hl [1, 2, 3, 0] rfl) hw hS
    · skip
      have bd56 : (43 : Int) ≤ zi902.toInt ∧ zi902.toInt ≤ 43 := r_eq_x cn16 (b_all zi902) bc_43 (by decide) (by decide)
      refine lv_bipush (v := 8) hx hb dX12_sign_51 (by decide) ?_
      refine lv_istore (lv' := [(4, .int 8), (0, .ref qa900), (1, .int zi901), (2, .int zi902)]) hx hb dX12_sign_53 hl (by decide) rfl (fun ls hl => ?_)
      exact jn21 8 _ _ ls (b_wid2 bc_8 (by decide) (by decide)) (lv_sub hl [1, 2, 3, 0] rfl) hw hS
  refine lv_icmp_ne (tgt := 10) hx hb dX12_sign_3 (by decide) (fun cn1 => ?_) (fun cn1 => ?_)
  · skip
    have tf57 : (zi902 : Int32).toInt ≠ (59 : Int32).toInt := fun e => cn1 (Int32.toInt_inj.mp e)
    have := toi bc_59
    refine lv_iload_n hx hb dX12_sign_10 rfl (lv_at hl 2 rfl) ?_
    refine lv_bipush (v := 61) hx hb dX12_sign_11 (by decide) ?_
    refine lv_icmp_ne (tgt := 20) hx hb dX12_sign_13 (by decide) (fun cn58 => ?_) (fun cn58 => ?_)
    · skip
      have tf59 : (zi902 : Int32).toInt ≠ (61 : Int32).toInt := fun e => cn58 (Int32.toInt_inj.mp e)
      have := toi bc_61
      refine lv_iload_n hx hb dX12_sign_20 rfl (lv_at hl 2 rfl) ?_
      refine lv_bipush (v := 40) hx hb dX12_sign_21 (by decide) ?_
      refine lv_icmp_ne (tgt := 31) hx hb dX12_sign_23 (by decide) (fun cn60 => ?_) (fun cn60 => ?_)
      · skip
        have tf61 : (zi902 : Int32).toInt ≠ (40 : Int32).toInt := fun e => cn60 (Int32.toInt_inj.mp e)
        have := toi bc_40
        refine lv_iload_n hx hb dX12_sign_31 rfl (lv_at hl 2 rfl) ?_
        refine lv_bipush (v := 41) hx hb dX12_sign_32 (by decide) ?_
        refine lv_icmp_ne (tgt := 42) hx hb dX12_sign_34 (by decide) (fun cn62 => ?_) (fun cn62 => ?_)
        · skip
          have tf63 : (zi902 : Int32).toInt ≠ (41 : Int32).toInt := fun e => cn62 (Int32.toInt_inj.mp e)
          have := toi bc_41
          refine lv_iconst (v := 3) hx hb dX12_sign_42 (by decide) ?_
          exact jn15 3 _ _ ls (b_wid2 bc_3 (by decide) (by decide)) (lv_sub hl [0, 1, 2] rfl) hw hS
        · skip
          have bd64 : (41 : Int) ≤ zi902.toInt ∧ zi902.toInt ≤ 41 := r_eq_x cn62 (b_all zi902) bc_41 (by decide) (by decide)
          refine lv_bipush (v := 7) hx hb dX12_sign_37 (by decide) ?_
          refine lv_goto (tgt := 43) hx hb dX12_sign_39 (by decide) ?_
          exact jn15 7 _ _ ls (b_wid2 bc_7 (by decide) (by decide)) (lv_sub hl [0, 1, 2] rfl) hw hS
      · skip
        have bd65 : (40 : Int) ≤ zi902.toInt ∧ zi902.toInt ≤ 40 := r_eq_x cn60 (b_all zi902) bc_40 (by decide) (by decide)
        refine lv_bipush (v := 6) hx hb dX12_sign_26 (by decide) ?_
        refine lv_goto (tgt := 43) hx hb dX12_sign_28 (by decide) ?_
        exact jn15 6 _ _ ls (b_wid2 bc_6 (by decide) (by decide)) (lv_sub hl [0, 1, 2] rfl) hw hS
    · skip
      have bd66 : (61 : Int) ≤ zi902.toInt ∧ zi902.toInt ≤ 61 := r_eq_x cn58 (b_all zi902) bc_61 (by decide) (by decide)
      refine lv_iconst (v := 5) hx hb dX12_sign_16 (by decide) ?_
      refine lv_goto (tgt := 43) hx hb dX12_sign_17 (by decide) ?_
      exact jn15 5 _ _ ls (b_wid2 bc_5 (by decide) (by decide)) (lv_sub hl [0, 1, 2] rfl) hw hS
  · skip
    have bd67 : (59 : Int) ≤ zi902.toInt ∧ zi902.toInt ≤ 59 := r_eq_x cn1 (b_all zi902) bc_59 (by decide) (by decide)
    refine lv_iconst (v := 4) hx hb dX12_sign_6 (by decide) ?_
    refine lv_goto (tgt := 43) hx hb dX12_sign_7 (by decide) ?_
    exact jn15 4 _ _ ls (b_wid2 bc_4 (by decide) (by decide)) (lv_sub hl [0, 1, 2] rfl) hw hS

set_option maxRecDepth 100000 in
set_option maxHeartbeats 4000000 in
theorem cX12_token_5 (l : Launch) (G : va_G) (cy : Nat → ClassId) (ev : Ew) (K ln : Nat → Nat) (Ls : List Nat) (hW : SW K ln Ls) (sz : Nat) (hp0 : Nat → Nat → Value) (ok0 : Ok K hp0) (qa900 : Nat) (zi901 : Int32) (zi902 : Int32) (zi903 : Int32) (wl904 : Int64) (zi960 : Int32) (kd900 : K qa900 = 13) (eq960 : hp0 qa900 10 = .int zi960) (bd960 : ((0 : Int) ≤ zi960.toInt ∧ zi960.toInt ≤ 400)) : Met l yX12_token (WS yX12_token cX12_token 6 none) { frames := 0, cells := 0, slots := 0, locals := 0 } (PB2 [.ref qa900, .int zi901, .int zi902, .int zi903, .long wl904] sz G cy ev (va_pl Ls (cellOf cy K ln hp0))) (QBv (S := (Nat → Nat → Value)) (fun u : (Nat → Nat → Value) => Ok K u ∧ Fr [13010, 62000, 63000, 64000, 65000] K hp0 u ∧ (∃ z : Int32, u qa900 10 = .int z ∧ ((1 : Int) ≤ z.toInt ∧ z.toInt ≤ 401)) ∧ ((gi u qa900 10) = (gi hp0 qa900 10) + 1)) G (fun u => va_pl Ls (cellOf cy K ln u)) (va_A (va_pl Ls (cellOf cy K ln hp0)) sz)) 0 0 (va_A (va_pl Ls (cellOf cy K ln hp0)) sz) := by
  refine met_of2 (y := yX12_token) (L := 6) (av := [.ref qa900, .int zi901, .int zi902, .int zi903, .long wl904]) (Qc := fun A => QBv (S := (Nat → Nat → Value)) (fun u : (Nat → Nat → Value) => Ok K u ∧ Fr [13010, 62000, 63000, 64000, 65000] K hp0 u ∧ (∃ z : Int32, u qa900 10 = .int z ∧ ((1 : Int) ≤ z.toInt ∧ z.toInt ≤ 401)) ∧ ((gi u qa900 10) = (gi hp0 qa900 10) + 1)) G (fun u => va_pl Ls (cellOf cy K ln u)) A) (plainFor_of_name (by decide)) (Nat.le_of_ble_eq_true rfl) ?_
  intro p e s m below meth c hsz hx hb hr hml hown hT hlocks hin hK A hA hE hw hS ls hl
  have hw : PW G cy K ln Ls A hp0 s.heap := hw
  have hown : s.vm.findClass "LieClockModel" = some m.cls := hown
  have hl : lv_has ls 6 [(0, .ref qa900), (1, .int zi901), (2, .int zi902), (3, .int zi903), (4, .long wl904)] := hl
  obtain ⟨Q, hQ⟩ : ∃ Q : State → Prop, Q = MQ below (QBv (S := (Nat → Nat → Value)) (fun u : (Nat → Nat → Value) => Ok K u ∧ Fr [13010, 62000, 63000, 64000, 65000] K hp0 u ∧ (∃ z : Int32, u qa900 10 = .int z ∧ ((1 : Int) ≤ z.toInt ∧ z.toInt ≤ 401)) ∧ ((gi u qa900 10) = (gi hp0 qa900 10) + 1)) G (fun u => va_pl Ls (cellOf cy K ln u)) A) ([.ref qa900, .int zi901, .int zi902, .int zi903, .long wl904] : List Value).toArray s 0 0 A := ⟨_, rfl⟩
  rw [← hQ]
  refine lv_aload_n hx hb dX12_token_0 rfl (lv_at hl 0 rfl) ?_
  obtain ⟨qa2, eq1, kd3⟩ := rd_13005 ok0 kd900
  refine p_get (ci := 12) (v := .ref qa2) (C := RX12) (T := TX12) (N := 69) hx hb hT iw_X12 hown hK hw hW kd900 (by decide) rfl rfl 5 (by decide) eq1 (hT _ tb_1379) (fun _ h9 => h9) dX12_token_1 ?_
  refine lv_aload_n hx hb dX12_token_4 rfl (lv_at hl 0 rfl) ?_
  refine p_get (ci := 12) (v := .int zi960) (C := RX12) (T := TX12) (N := 69) hx hb hT iw_X12 hown hK hw hW kd900 (by decide) rfl rfl 10 (by decide) eq960 (hT _ tb_1384) (fun _ h9 => h9) dX12_token_5 ?_
  refine lv_iload_n hx hb dX12_token_8 rfl (lv_at hl 1 rfl) ?_
  refine p_iast (x := zi901) hx hb hK hw hS hW kd3 (by decide) rfl (hW.len kd3 (n := 403) rfl (by decide)) (vp_b bd960 (by decide) (by decide)) dX12_token_9 (fun hp4 eh5 H locs hw hS => ?_)
  have ok6 := wr_62000 ok0 kd3 eh5
  refine lv_aload_n hx hb dX12_token_10 rfl (lv_at hl 0 rfl) ?_
  obtain ⟨qa8, eq7, kd9⟩ := rd_13006 ok6 kd900
  refine p_get (ci := 12) (v := .ref qa8) (C := RX12) (T := TX12) (N := 69) hx hb hT iw_X12 hown hK hw hW kd900 (by decide) rfl rfl 6 (by decide) eq7 (hT _ tb_1380) (fun _ h9 => h9) dX12_token_11 ?_
  refine lv_aload_n hx hb dX12_token_14 rfl (lv_at hl 0 rfl) ?_
  have eq10 : hp4 qa900 10 = .int zi960 := Eq.trans (up_at eh5 (Or.inl (kd_ne kd900 kd3 (by decide)))) eq960
  refine p_get (ci := 12) (v := .int zi960) (C := RX12) (T := TX12) (N := 69) hx hb hT iw_X12 hown hK hw hW kd900 (by decide) rfl rfl 10 (by decide) eq10 (hT _ tb_1384) (fun _ h9 => h9) dX12_token_15 ?_
  refine lv_iload_n hx hb dX12_token_18 rfl (lv_at hl 2 rfl) ?_
  refine p_iast (x := zi902) hx hb hK hw hS hW kd9 (by decide) rfl (hW.len kd9 (n := 403) rfl (by decide)) (vp_b bd960 (by decide) (by decide)) dX12_token_19 (fun hp11 eh12 H locs hw hS => ?_)
  have ok13 := wr_63000 ok6 kd9 eh12
  refine lv_aload_n hx hb dX12_token_20 rfl (lv_at hl 0 rfl) ?_
  obtain ⟨qa15, eq14, kd16⟩ := rd_13007 ok13 kd900
  refine p_get (ci := 12) (v := .ref qa15) (C := RX12) (T := TX12) (N := 69) hx hb hT iw_X12 hown hK hw hW kd900 (by decide) rfl rfl 7 (by decide) eq14 (hT _ tb_1381) (fun _ h9 => h9) dX12_token_21 ?_
  refine lv_aload_n hx hb dX12_token_24 rfl (lv_at hl 0 rfl) ?_
  have eq17 : hp11 qa900 10 = .int zi960 := Eq.trans (up_at eh12 (Or.inl (kd_ne kd900 kd9 (by decide)))) eq10
  refine p_get (ci := 12) (v := .int zi960) (C := RX12) (T := TX12) (N := 69) hx hb hT iw_X12 hown hK hw hW kd900 (by decide) rfl rfl 10 (by decide) eq17 (hT _ tb_1384) (fun _ h9 => h9) dX12_token_25 ?_
  refine lv_iload_n hx hb dX12_token_28 rfl (lv_at hl 3 rfl) ?_
  refine p_iast (x := zi903) hx hb hK hw hS hW kd16 (by decide) rfl (hW.len kd16 (n := 403) rfl (by decide)) (vp_b bd960 (by decide) (by decide)) dX12_token_29 (fun hp18 eh19 H locs hw hS => ?_)
  have ok20 := wr_64000 ok13 kd16 eh19
  refine lv_aload_n hx hb dX12_token_30 rfl (lv_at hl 0 rfl) ?_
  obtain ⟨qa22, eq21, kd23⟩ := rd_13008 ok20 kd900
  refine p_get (ci := 12) (v := .ref qa22) (C := RX12) (T := TX12) (N := 69) hx hb hT iw_X12 hown hK hw hW kd900 (by decide) rfl rfl 8 (by decide) eq21 (hT _ tb_1382) (fun _ h9 => h9) dX12_token_31 ?_
  refine lv_aload_n hx hb dX12_token_34 rfl (lv_at hl 0 rfl) ?_
  have eq24 : hp18 qa900 10 = .int zi960 := Eq.trans (up_at eh19 (Or.inl (kd_ne kd900 kd16 (by decide)))) eq17
  refine p_get (ci := 12) (v := .int zi960) (C := RX12) (T := TX12) (N := 69) hx hb hT iw_X12 hown hK hw hW kd900 (by decide) rfl rfl 10 (by decide) eq24 (hT _ tb_1384) (fun _ h9 => h9) dX12_token_35 ?_
  refine lv_lload hx hb dX12_token_38 (lv_at hl 4 rfl) ?_
  refine p_last (x := wl904) hx hb hK hw hS hW kd23 (by decide) rfl (hW.len kd23 (n := 403) rfl (by decide)) (vp_b bd960 (by decide) (by decide)) dX12_token_40 (fun hp25 eh26 H locs hw hS => ?_)
  have ok27 := wr_65000 ok20 kd23 eh26
  refine lv_aload_n hx hb dX12_token_41 rfl (lv_at hl 0 rfl) ?_
  refine lv_dup hx hb dX12_token_42 rfl ?_
  have eq28 : hp25 qa900 10 = .int zi960 := Eq.trans (up_at eh26 (Or.inl (kd_ne kd900 kd23 (by decide)))) eq24
  refine p_get (ci := 12) (v := .int zi960) (C := RX12) (T := TX12) (N := 69) hx hb hT iw_X12 hown hK hw hW kd900 (by decide) rfl rfl 10 (by decide) eq28 (hT _ tb_1384) (fun _ h9 => h9) dX12_token_43 ?_
  refine lv_iconst (v := 1) hx hb dX12_token_46 (by decide) ?_
  refine lv_iadd hx hb dX12_token_47 (lv_topi (fun zi29 ea30 => ?_))
  have bd31 : (1 : Int) ≤ zi29.toInt ∧ zi29.toInt ≤ 401 := b_iadd ea30 bd960 bc_1 (by decide) (by decide) (by decide) (by decide)
  have qe32 : zi29.toInt = (zi960 : Int32).toInt + (1 : Int32).toInt := e_iadd ea30 bd960 bc_1 (by decide) (by decide)
  have qe33 : zi29.toInt = zi960.toInt + 1 := by have ha : (1 : Int32).toInt = 1 := (by decide); rw [ha] at qe32; exact qe32
  refine p_put (ci := 12) (v := .int zi29) (ty := .int) (C := RX12) (T := TX12) (N := 69) hx hb hT iw_X12 tyX12 tyX12_ok nmX12 hown hK hw hS hW kd900 (by decide) rfl rfl 10 (by decide) (hT _ tb_1384) (fun _ h9 => h9) rfl (by decide +kernel) rfl rfl dX12_token_48 (fun hp34 eh35 H locs hw hS => ?_)
  have ok36 := wr_13010 bd31 (by decide) (by decide) ok27 kd900 eh35
  rw [hQ]
  exact kz_v hx hb hr hlocks hS hp34 hw ⟨ok36, (Fr.put (cq := 13010) (Fr.put (cq := 65000) (Fr.put (cq := 64000) (Fr.put (cq := 63000) (Fr.put (cq := 62000) (Fr.rf) eh5 kd3 (cd_a (by decide)) (by decide)) eh12 kd9 (cd_a (by decide)) (by decide)) eh19 kd16 (cd_a (by decide)) (by decide)) eh26 kd23 (cd_a (by decide)) (by decide)) eh35 kd900 (cd_o (by decide)) (by decide)), ⟨_, (hp_self eh35), b_wid2 bd31 (by decide) (by decide)⟩, (by simp only [gi_of (hp_self eh35), gi_of eq960]; omega)⟩ (Nat.le_of_ble_eq_true rfl) (Nat.le_of_ble_eq_true rfl) dX12_token_51

set_option maxRecDepth 100000 in
set_option maxHeartbeats 4000000 in
theorem cX12_sign_5 (l : Launch) (G : va_G) (cy : Nat → ClassId) (ev : Ew) (K ln : Nat → Nat) (Ls : List Nat) (hW : SW K ln Ls) (sz : Nat) (hp0 : Nat → Nat → Value) (ok0 : Ok K hp0) (qa900 : Nat) (zi901 : Int32) (zi902 : Int32) (zi903 : Int32) (zi960 : Int32) (kd900 : K qa900 = 13) (eq960 : hp0 qa900 10 = .int zi960) (bd960 : ((0 : Int) ≤ zi960.toInt ∧ zi960.toInt ≤ 400)) : Met l yX12_sign (WS yX12_sign cX12_sign 5 (some .int)) { frames := 1, cells := 0, slots := 0, locals := 25 } (PB2 [.ref qa900, .int zi901, .int zi902, .int zi903] sz G cy ev (va_pl Ls (cellOf cy K ln hp0))) (QBi (S := (Nat → Nat → Value)) (fun (r : Int32) (u : (Nat → Nat → Value)) => Ok K u ∧ Fr [13010, 62000, 63000, 64000, 65000] K hp0 u ∧ ((1 : Int) ≤ r.toInt ∧ r.toInt ≤ 1) ∧ (∃ z : Int32, u qa900 10 = .int z ∧ ((1 : Int) ≤ z.toInt ∧ z.toInt ≤ 401)) ∧ ((gi u qa900 10) = (gi hp0 qa900 10) + 1)) G (fun u => va_pl Ls (cellOf cy K ln u)) (va_A (va_pl Ls (cellOf cy K ln hp0)) sz)) 0 0 (va_A (va_pl Ls (cellOf cy K ln hp0)) sz) := by
  refine met_of2 (y := yX12_sign) (L := 5) (av := [.ref qa900, .int zi901, .int zi902, .int zi903]) (Qc := fun A => QBi (S := (Nat → Nat → Value)) (fun (r : Int32) (u : (Nat → Nat → Value)) => Ok K u ∧ Fr [13010, 62000, 63000, 64000, 65000] K hp0 u ∧ ((1 : Int) ≤ r.toInt ∧ r.toInt ≤ 1) ∧ (∃ z : Int32, u qa900 10 = .int z ∧ ((1 : Int) ≤ z.toInt ∧ z.toInt ≤ 401)) ∧ ((gi u qa900 10) = (gi hp0 qa900 10) + 1)) G (fun u => va_pl Ls (cellOf cy K ln u)) A) (plainFor_of_name (by decide)) (Nat.le_of_ble_eq_true rfl) ?_
  intro p e s m below meth c hsz hx hb hr hml hown hT hlocks hin hK A hA hE hw hS ls hl
  have hw : PW G cy K ln Ls A hp0 s.heap := hw
  have hown : s.vm.findClass "LieClockModel" = some m.cls := hown
  have hl : lv_has ls 5 [(0, .ref qa900), (1, .int zi901), (2, .int zi902), (3, .int zi903)] := hl
  obtain ⟨Q, hQ⟩ : ∃ Q : State → Prop, Q = MQ below (QBi (S := (Nat → Nat → Value)) (fun (r : Int32) (u : (Nat → Nat → Value)) => Ok K u ∧ Fr [13010, 62000, 63000, 64000, 65000] K hp0 u ∧ ((1 : Int) ≤ r.toInt ∧ r.toInt ≤ 1) ∧ (∃ z : Int32, u qa900 10 = .int z ∧ ((1 : Int) ≤ z.toInt ∧ z.toInt ≤ 401)) ∧ ((gi u qa900 10) = (gi hp0 qa900 10) + 1)) G (fun u => va_pl Ls (cellOf cy K ln u)) A) ([.ref qa900, .int zi901, .int zi902, .int zi903] : List Value).toArray s 0 0 A := ⟨_, rfl⟩
  rw [← hQ]
  refine lv_iload_n hx hb dX12_sign_0 rfl (lv_at hl 2 rfl) ?_
  refine lv_bipush (v := 59) hx hb dX12_sign_1 (by decide) ?_
  have jn15 : ∀ (zi13 : Int32) (H : Heap) (locs : List Loc) (ls : Array Slot), ((3 : Int) ≤ zi13.toInt ∧ zi13.toInt ≤ 7) → lv_has ls 5 [(0, .ref qa900), (1, .int zi901), (2, .int zi902)] → PW G cy K ln Ls A hp0 H → va_S A s.heap H locs → W p l e ({ frames := 1, cells := 0, slots := 0, locals := 25 } : Room) s m ([.ref qa900, .int zi901, .int zi902, .int zi903] : List Value).toArray below meth c H locs 0 0 Q (F0 m 43 ls [.int zi13]) := by
    intro zi13 H locs ls bd14 hl hw hS
    refine lv_istore (lv' := [(4, .int zi13), (0, .ref qa900), (1, .int zi901), (2, .int zi902)]) hx hb dX12_sign_43 hl (by decide) rfl (fun ls hl => ?_)
    refine lv_iload_n hx hb dX12_sign_45 rfl (lv_at hl 3 rfl) ?_
    refine lv_bipush (v := 43) hx hb dX12_sign_46 (by decide) ?_
    have jn21 : ∀ (zi19 : Int32) (H : Heap) (locs : List Loc) (ls : Array Slot), ((3 : Int) ≤ zi19.toInt ∧ zi19.toInt ≤ 8) → lv_has ls 5 [(0, .ref qa900), (1, .int zi901), (2, .int zi902), (4, .int zi19)] → PW G cy K ln Ls A hp0 H → va_S A s.heap H locs → W p l e ({ frames := 1, cells := 0, slots := 0, locals := 25 } : Room) s m ([.ref qa900, .int zi901, .int zi902, .int zi903] : List Value).toArray below meth c H locs 0 0 Q (F0 m 55 ls []) := by
      intro zi19 H locs ls bd20 hl hw hS
      refine lv_iload_n hx hb dX12_sign_55 rfl (lv_at hl 2 rfl) ?_
      refine lv_bipush (v := 45) hx hb dX12_sign_56 (by decide) ?_
      have jn27 : ∀ (zi25 : Int32) (H : Heap) (locs : List Loc) (ls : Array Slot), ((3 : Int) ≤ zi25.toInt ∧ zi25.toInt ≤ 9) → lv_has ls 5 [(0, .ref qa900), (1, .int zi901), (2, .int zi902), (4, .int zi25)] → PW G cy K ln Ls A hp0 H → va_S A s.heap H locs → W p l e ({ frames := 1, cells := 0, slots := 0, locals := 25 } : Room) s m ([.ref qa900, .int zi901, .int zi902, .int zi903] : List Value).toArray below meth c H locs 0 0 Q (F0 m 65 ls []) := by
        intro zi25 H locs ls bd26 hl hw hS
        refine lv_iload_n hx hb dX12_sign_65 rfl (lv_at hl 2 rfl) ?_
        refine lv_bipush (v := 42) hx hb dX12_sign_66 (by decide) ?_
        have jn33 : ∀ (zi31 : Int32) (H : Heap) (locs : List Loc) (ls : Array Slot), ((3 : Int) ≤ zi31.toInt ∧ zi31.toInt ≤ 10) → lv_has ls 5 [(0, .ref qa900), (1, .int zi901), (2, .int zi902), (4, .int zi31)] → PW G cy K ln Ls A hp0 H → va_S A s.heap H locs → W p l e ({ frames := 1, cells := 0, slots := 0, locals := 25 } : Room) s m ([.ref qa900, .int zi901, .int zi902, .int zi903] : List Value).toArray below meth c H locs 0 0 Q (F0 m 75 ls []) := by
          intro zi31 H locs ls bd32 hl hw hS
          refine lv_iload_n hx hb dX12_sign_75 rfl (lv_at hl 2 rfl) ?_
          refine lv_bipush (v := 47) hx hb dX12_sign_76 (by decide) ?_
          have jn39 : ∀ (zi37 : Int32) (H : Heap) (locs : List Loc) (ls : Array Slot), ((3 : Int) ≤ zi37.toInt ∧ zi37.toInt ≤ 15) → lv_has ls 5 [(0, .ref qa900), (1, .int zi901), (4, .int zi37)] → PW G cy K ln Ls A hp0 H → va_S A s.heap H locs → W p l e ({ frames := 1, cells := 0, slots := 0, locals := 25 } : Room) s m ([.ref qa900, .int zi901, .int zi902, .int zi903] : List Value).toArray below meth c H locs 0 0 Q (F0 m 85 ls []) := by
            intro zi37 H locs ls bd38 hl hw hS
            refine lv_aload_n hx hb dX12_sign_85 rfl (lv_at hl 0 rfl) ?_
            refine lv_iload hx hb dX12_sign_86 (lv_at hl 2 rfl) ?_
            refine lv_iload_n hx hb dX12_sign_88 rfl (lv_at hl 1 rfl) ?_
            refine lv_iconst (v := 0) hx hb dX12_sign_89 (by decide) ?_
            refine lv_lconst (v := 0) hx hb dX12_sign_90 (by decide) ?_
            refine kq_v hw hS hA (va_runV (As := [.int zi37, .int zi901, .int 0, .long 0]) (rest := []) ⟨hx, hb, hml, hown, hT⟩ (cX12_token_5 l G cy ev K ln Ls hW _ hp0 ok0 qa900 zi37 zi901 0 0 zi960 kd900 eq960 (b_wid2 bd960 (by decide) (by decide))) (cwV 4 hT (good_V tb_1609 tb_1606 tb_1608 tb_50 tb_122) rfl rfl rfl (by decide +kernel) ⟨Nat.le_of_ble_eq_true rfl, Nat.le_of_ble_eq_true rfl⟩) (pool_preV (ci := 12) hK hE hS hA hw hW kd900 (by decide) rfl) rfl rfl hl.1 rfl (lv_room (Nat.le_of_ble_eq_true rfl)) dX12_sign_91 ⟨Nat.le_of_ble_eq_true rfl, Nat.le_of_ble_eq_true rfl⟩) (fun hp40 H locs hq43 hw hS => ?_)
            obtain ⟨ok41, F42, ⟨zi45, eq46, bd47⟩, rh48⟩ := hq43
            have hw : PW G cy K ln Ls A hp40 H := hw
            simp only [gi_of eq46, gi_of eq960] at rh48
            refine lv_iconst (v := 1) hx hb dX12_sign_94 (by decide) ?_
            rw [hQ]
            exact kz_i hx hb hr hlocks hS rfl hp40 hw ⟨ok41, (Fr.tr (Fr.rf) F42 (by decide)), (b_wid2 bc_1 (by decide) (by decide)), ⟨_, eq46, b_wid2 bd47 (by decide) (by decide)⟩, (by simp only [gi_of eq46, gi_of eq960]; omega)⟩ (Nat.le_of_ble_eq_true rfl) (Nat.le_of_ble_eq_true rfl) dX12_sign_95
          refine lv_icmp_ne (tgt := 85) hx hb dX12_sign_78 (by decide) (fun cn34 => ?_) (fun cn34 => ?_)
          · skip
            have tf49 : (zi902 : Int32).toInt ≠ (47 : Int32).toInt := fun e => cn34 (Int32.toInt_inj.mp e)
            have := toi bc_47
            exact jn39 zi31 _ _ ls (b_wid2 bd32 (by decide) (by decide)) (lv_sub hl [0, 1, 3] rfl) hw hS
          · skip
            have bd50 : (47 : Int) ≤ zi902.toInt ∧ zi902.toInt ≤ 47 := r_eq_x cn34 (b_all zi902) bc_47 (by decide) (by decide)
            refine lv_bipush (v := 15) hx hb dX12_sign_81 (by decide) ?_
            refine lv_istore (lv' := [(4, .int 15), (0, .ref qa900), (1, .int zi901), (2, .int zi902)]) hx hb dX12_sign_83 hl (by decide) rfl (fun ls hl => ?_)
            exact jn39 15 _ _ ls (b_wid2 bc_15 (by decide) (by decide)) (lv_sub hl [1, 2, 0] rfl) hw hS
        refine lv_icmp_ne (tgt := 75) hx hb dX12_sign_68 (by decide) (fun cn28 => ?_) (fun cn28 => ?_)
        · skip
          have tf51 : (zi902 : Int32).toInt ≠ (42 : Int32).toInt := fun e => cn28 (Int32.toInt_inj.mp e)
          have := toi bc_42
          exact jn33 zi25 _ _ ls (b_wid2 bd26 (by decide) (by decide)) (lv_sub hl [0, 1, 2, 3] rfl) hw hS
        · skip
          have bd52 : (42 : Int) ≤ zi902.toInt ∧ zi902.toInt ≤ 42 := r_eq_x cn28 (b_all zi902) bc_42 (by decide) (by decide)
          refine lv_bipush (v := 10) hx hb dX12_sign_71 (by decide) ?_
          refine lv_istore (lv' := [(4, .int 10), (0, .ref qa900), (1, .int zi901), (2, .int zi902)]) hx hb dX12_sign_73 hl (by decide) rfl (fun ls hl => ?_)
          exact jn33 10 _ _ ls (b_wid2 bc_10 (by decide) (by decide)) (lv_sub hl [1, 2, 3, 0] rfl) hw hS
      refine lv_icmp_ne (tgt := 65) hx hb dX12_sign_58 (by decide) (fun cn22 => ?_) (fun cn22 => ?_)
      · skip
        have tf53 : (zi902 : Int32).toInt ≠ (45 : Int32).toInt := fun e => cn22 (Int32.toInt_inj.mp e)
        have := toi bc_45
        exact jn27 zi19 _ _ ls (b_wid2 bd20 (by decide) (by decide)) (lv_sub hl [0, 1, 2, 3] rfl) hw hS
      · skip
        have bd54 : (45 : Int) ≤ zi902.toInt ∧ zi902.toInt ≤ 45 := r_eq_x cn22 (b_all zi902) bc_45 (by decide) (by decide)
        refine lv_bipush (v := 9) hx hb dX12_sign_61 (by decide) ?_
        refine lv_istore (lv' := [(4, .int 9), (0, .ref qa900), (1, .int zi901), (2, .int zi902)]) hx hb dX12_sign_63 hl (by decide) rfl (fun ls hl => ?_)
        exact jn27 9 _ _ ls (b_wid2 bc_9 (by decide) (by decide)) (lv_sub hl [1, 2, 3, 0] rfl) hw hS
    refine lv_icmp_ne (tgt := 55) hx hb dX12_sign_48 (by decide) (fun cn16 => ?_) (fun cn16 => ?_)
    · skip
      have tf55 : (zi902 : Int32).toInt ≠ (43 : Int32).toInt := fun e => cn16 (Int32.toInt_inj.mp e)
      have := toi bc_43
      exact jn21 zi13 _ _ ls (b_wid2 bd14 (by decide) (by decide)) (lv_sub hl [1, 2, 3, 0] rfl) hw hS
    · skip
      have bd56 : (43 : Int) ≤ zi902.toInt ∧ zi902.toInt ≤ 43 := r_eq_x cn16 (b_all zi902) bc_43 (by decide) (by decide)
      refine lv_bipush (v := 8) hx hb dX12_sign_51 (by decide) ?_
      refine lv_istore (lv' := [(4, .int 8), (0, .ref qa900), (1, .int zi901), (2, .int zi902)]) hx hb dX12_sign_53 hl (by decide) rfl (fun ls hl => ?_)
      exact jn21 8 _ _ ls (b_wid2 bc_8 (by decide) (by decide)) (lv_sub hl [1, 2, 3, 0] rfl) hw hS
  refine lv_icmp_ne (tgt := 10) hx hb dX12_sign_3 (by decide) (fun cn1 => ?_) (fun cn1 => ?_)
  · skip
    have tf57 : (zi902 : Int32).toInt ≠ (59 : Int32).toInt := fun e => cn1 (Int32.toInt_inj.mp e)
    have := toi bc_59
    refine lv_iload_n hx hb dX12_sign_10 rfl (lv_at hl 2 rfl) ?_
    refine lv_bipush (v := 61) hx hb dX12_sign_11 (by decide) ?_
    refine lv_icmp_ne (tgt := 20) hx hb dX12_sign_13 (by decide) (fun cn58 => ?_) (fun cn58 => ?_)
    · skip
      have tf59 : (zi902 : Int32).toInt ≠ (61 : Int32).toInt := fun e => cn58 (Int32.toInt_inj.mp e)
      have := toi bc_61
      refine lv_iload_n hx hb dX12_sign_20 rfl (lv_at hl 2 rfl) ?_
      refine lv_bipush (v := 40) hx hb dX12_sign_21 (by decide) ?_
      refine lv_icmp_ne (tgt := 31) hx hb dX12_sign_23 (by decide) (fun cn60 => ?_) (fun cn60 => ?_)
      · skip
        have tf61 : (zi902 : Int32).toInt ≠ (40 : Int32).toInt := fun e => cn60 (Int32.toInt_inj.mp e)
        have := toi bc_40
        refine lv_iload_n hx hb dX12_sign_31 rfl (lv_at hl 2 rfl) ?_
        refine lv_bipush (v := 41) hx hb dX12_sign_32 (by decide) ?_
        refine lv_icmp_ne (tgt := 42) hx hb dX12_sign_34 (by decide) (fun cn62 => ?_) (fun cn62 => ?_)
        · skip
          have tf63 : (zi902 : Int32).toInt ≠ (41 : Int32).toInt := fun e => cn62 (Int32.toInt_inj.mp e)
          have := toi bc_41
          refine lv_iconst (v := 3) hx hb dX12_sign_42 (by decide) ?_
          exact jn15 3 _ _ ls (b_wid2 bc_3 (by decide) (by decide)) (lv_sub hl [0, 1, 2] rfl) hw hS
        · skip
          have bd64 : (41 : Int) ≤ zi902.toInt ∧ zi902.toInt ≤ 41 := r_eq_x cn62 (b_all zi902) bc_41 (by decide) (by decide)
          refine lv_bipush (v := 7) hx hb dX12_sign_37 (by decide) ?_
          refine lv_goto (tgt := 43) hx hb dX12_sign_39 (by decide) ?_
          exact jn15 7 _ _ ls (b_wid2 bc_7 (by decide) (by decide)) (lv_sub hl [0, 1, 2] rfl) hw hS
      · skip
        have bd65 : (40 : Int) ≤ zi902.toInt ∧ zi902.toInt ≤ 40 := r_eq_x cn60 (b_all zi902) bc_40 (by decide) (by decide)
        refine lv_bipush (v := 6) hx hb dX12_sign_26 (by decide) ?_
        refine lv_goto (tgt := 43) hx hb dX12_sign_28 (by decide) ?_
        exact jn15 6 _ _ ls (b_wid2 bc_6 (by decide) (by decide)) (lv_sub hl [0, 1, 2] rfl) hw hS
    · skip
      have bd66 : (61 : Int) ≤ zi902.toInt ∧ zi902.toInt ≤ 61 := r_eq_x cn58 (b_all zi902) bc_61 (by decide) (by decide)
      refine lv_iconst (v := 5) hx hb dX12_sign_16 (by decide) ?_
      refine lv_goto (tgt := 43) hx hb dX12_sign_17 (by decide) ?_
      exact jn15 5 _ _ ls (b_wid2 bc_5 (by decide) (by decide)) (lv_sub hl [0, 1, 2] rfl) hw hS
  · skip
    have bd67 : (59 : Int) ≤ zi902.toInt ∧ zi902.toInt ≤ 59 := r_eq_x cn1 (b_all zi902) bc_59 (by decide) (by decide)
    refine lv_iconst (v := 4) hx hb dX12_sign_6 (by decide) ?_
    refine lv_goto (tgt := 43) hx hb dX12_sign_7 (by decide) ?_
    exact jn15 4 _ _ ls (b_wid2 bc_4 (by decide) (by decide)) (lv_sub hl [0, 1, 2] rfl) hw hS

set_option maxRecDepth 100000 in
set_option maxHeartbeats 4000000 in
theorem cX12_cut_0 (l : Launch) (G : va_G) (cy : Nat → ClassId) (ev : Ew) (K ln : Nat → Nat) (Ls : List Nat) (hW : SW K ln Ls) (sz : Nat) (hp0 : Nat → Nat → Value) (ok0 : Ok K hp0) (qa900 : Nat) (kd900 : K qa900 = 13) : Met l yX12_cut (WS yX12_cut cX12_cut 8 none) { frames := 2, cells := 0, slots := 0, locals := 49 } (PB2 [.ref qa900] sz G cy ev (va_pl Ls (cellOf cy K ln hp0))) (QBv (S := (Nat → Nat → Value)) (fun u : (Nat → Nat → Value) => Ok K u ∧ Fr [13010, 62000, 63000, 64000, 65000] K hp0 u ∧ (∃ z : Int32, u qa900 10 = .int z ∧ ((1 : Int) ≤ z.toInt ∧ z.toInt ≤ 401))) G (fun u => va_pl Ls (cellOf cy K ln u)) (va_A (va_pl Ls (cellOf cy K ln hp0)) sz)) 0 0 (va_A (va_pl Ls (cellOf cy K ln hp0)) sz) := by
  refine met_of2 (y := yX12_cut) (L := 8) (av := [.ref qa900]) (Qc := fun A => QBv (S := (Nat → Nat → Value)) (fun u : (Nat → Nat → Value) => Ok K u ∧ Fr [13010, 62000, 63000, 64000, 65000] K hp0 u ∧ (∃ z : Int32, u qa900 10 = .int z ∧ ((1 : Int) ≤ z.toInt ∧ z.toInt ≤ 401))) G (fun u => va_pl Ls (cellOf cy K ln u)) A) (plainFor_of_name (by decide)) (Nat.le_of_ble_eq_true rfl) ?_
  intro p e s m below meth c hsz hx hb hr hml hown hT hlocks hin hK A hA hE hw hS ls hl
  have hw : PW G cy K ln Ls A hp0 s.heap := hw
  have hown : s.vm.findClass "LieClockModel" = some m.cls := hown
  have hl : lv_has ls 8 [(0, .ref qa900)] := hl
  obtain ⟨Q, hQ⟩ : ∃ Q : State → Prop, Q = MQ below (QBv (S := (Nat → Nat → Value)) (fun u : (Nat → Nat → Value) => Ok K u ∧ Fr [13010, 62000, 63000, 64000, 65000] K hp0 u ∧ (∃ z : Int32, u qa900 10 = .int z ∧ ((1 : Int) ≤ z.toInt ∧ z.toInt ≤ 401))) G (fun u => va_pl Ls (cellOf cy K ln u)) A) ([.ref qa900] : List Value).toArray s 0 0 A := ⟨_, rfl⟩
  rw [← hQ]
  refine lv_aload_n hx hb dX12_cut_0 rfl (lv_at hl 0 rfl) ?_
  refine lv_iconst (v := 0) hx hb dX12_cut_1 (by decide) ?_
  refine p_put (ci := 12) (v := .int 0) (ty := .int) (C := RX12) (T := TX12) (N := 69) hx hb hT iw_X12 tyX12 tyX12_ok nmX12 hown hK hw hS hW kd900 (by decide) rfl rfl 10 (by decide) (hT _ tb_1384) (fun _ h9 => h9) rfl (by decide +kernel) rfl rfl dX12_cut_2 (fun hp1 eh2 H locs hw hS => ?_)
  have ok3 := wr_13010 bc_0 (by decide) (by decide) ok0 kd900 eh2
  refine lv_iconst (v := 0) hx hb dX12_cut_5 (by decide) ?_
  refine lv_istore_n (lv' := [(1, .int 0), (0, .ref qa900)]) hx hb dX12_cut_6 rfl hl (by decide) rfl (fun ls hl => ?_)
  have lp44266 : ∀ (n44264 : Nat) (hp35417 : Nat → Nat → Value) (zi35416 : Int32) (zi35421 : Int32) (H : Heap) (locs : List Loc) (ls : Array Slot), (402 - zi35421.toInt) * 10000 + 4000 - (zi35416 : Int32).toInt < (n44264 : Int) → Ok K hp35417 → Fr [13010, 62000, 63000, 64000, 65000] K hp1 hp35417 → ((0 : Int) ≤ zi35416.toInt ∧ zi35416.toInt ≤ 3999) → ((0 : Int) ≤ zi35421.toInt ∧ zi35421.toInt ≤ 401) → hp35417 qa900 10 = .int zi35421 → lv_has ls 8 [(0, .ref qa900), (1, .int zi35416)] → PW G cy K ln Ls A hp35417 H → va_S A s.heap H locs → W p l e ({ frames := 2, cells := 0, slots := 0, locals := 49 } : Room) s m ([.ref qa900] : List Value).toArray below meth c H locs 0 0 Q (F0 m 7 ls []) := by
    intro n44264
    induction n44264 with
    | zero =>
      intro hp35417 zi35416 zi35421 H locs ls hm44267 ok35419 F35418 bd35422 bd35423 eq35420 hl hw hS
      exact absurd hm44267 (by omega)
    | succ n44264 ih44265 =>
      intro hp35417 zi35416 zi35421 H locs ls hm44267 ok35419 F35418 bd35422 bd35423 eq35420 hl hw hS
      refine lv_aload_n hx hb dX12_cut_7 rfl (lv_at hl 0 rfl) ?_
      refine p_get (ci := 12) (v := .int zi35421) (C := RX12) (T := TX12) (N := 69) hx hb hT iw_X12 hown hK hw hW kd900 (by decide) rfl rfl 10 (by decide) eq35420 (hT _ tb_1384) (fun _ h9 => h9) dX12_cut_8 ?_
      refine lv_sipush (v := 400) hx hb dX12_cut_11 (by decide) ?_
      refine lv_icmp_gt (tgt := 294) hx hb dX12_cut_14 (by decide) (fun cn44268 => ?_) (fun cn44268 => ?_)
      · skip
        have bd44269 : (401 : Int) ≤ zi35421.toInt ∧ zi35421.toInt ≤ 401 := r_lt_y cn44268 bc_400 bd35423 (by decide) (by decide)
        rw [hQ]
        exact kz_v hx hb hr hlocks hS hp35417 hw ⟨ok35419, (Fr.tr (Fr.put (cq := 13010) (Fr.rf) eh2 kd900 (cd_o (by decide)) (by decide)) F35418 (by decide)), ⟨_, eq35420, b_wid2 bd44269 (by decide) (by decide)⟩⟩ (Nat.le_of_ble_eq_true rfl) (Nat.le_of_ble_eq_true rfl) dX12_cut_294
      · skip
        have bd44270 : (0 : Int) ≤ zi35421.toInt ∧ zi35421.toInt ≤ 400 := r_le_x (Int32.not_lt.mp cn44268) bd35423 bc_400 (by decide) (by decide)
        refine lv_aload_n hx hb dX12_cut_17 rfl (lv_at hl 0 rfl) ?_
        refine lv_iload_n hx hb dX12_cut_18 rfl (lv_at hl 1 rfl) ?_
        refine kq_i hw hS hA (va_runV (As := [.int zi35416]) (rest := []) ⟨hx, hb, hml, hown, hT⟩ (cX12_byteAt_0 l G cy ev K ln Ls hW _ hp35417 ok35419 qa900 zi35416 kd900 (b_wid2 bd35422 (by decide) (by decide))) (cwV 1 hT (good_V tb_1605 tb_1602 tb_1604 tb_49 tb_122) rfl rfl rfl (by decide +kernel) ⟨Nat.le_of_ble_eq_true rfl, Nat.le_of_ble_eq_true rfl⟩) (pool_preV (ci := 12) hK hE hS hA hw hW kd900 (by decide) rfl) rfl rfl hl.1 rfl (lv_room (Nat.le_of_ble_eq_true rfl)) dX12_cut_19 ⟨Nat.le_of_ble_eq_true rfl, Nat.le_of_ble_eq_true rfl⟩) (fun zi44275 hp44271 H locs hq44274 hw hS => ?_)
        obtain ⟨ok44272, F44273, bd44276, hi44277⟩ := hq44274
        obtain rfl : hp35417 = hp44271 := (Fr.nil F44273).symm
        have hw : PW G cy K ln Ls A hp35417 H := hw
        refine lv_istore_n (lv' := [(2, .int zi44275), (0, .ref qa900), (1, .int zi35416)]) hx hb dX12_cut_22 rfl hl (by decide) rfl (fun ls hl => ?_)
        refine lv_iload_n hx hb dX12_cut_23 rfl (lv_at hl 2 rfl) ?_
        refine lv_aload_n hx hb dX12_cut_24 rfl (lv_at hl 1 rfl) ?_
        obtain ⟨zi44279, eq44278, bd44280⟩ := rd_13004 ok35419 kd900
        refine p_get (ci := 12) (v := .int zi44279) (C := RX12) (T := TX12) (N := 69) hx hb hT iw_X12 hown hK hw hW kd900 (by decide) rfl rfl 4 (by decide) eq44278 (hT _ tb_1378) (fun _ h9 => h9) dX12_cut_25 ?_
        refine lv_icmp_lt (tgt := 43) hx hb dX12_cut_28 (by decide) (fun cn44281 => ?_) (fun cn44281 => ?_)
        · skip
          have tf44282 : zi35416.toInt < zi44279.toInt := (fa_lt _ _).mp cn44281
          have bd44283 : (0 : Int) ≤ zi35416.toInt ∧ zi35416.toInt ≤ 1999 := r_lt_x cn44281 bd35422 bd44280 (by decide) (by decide)
          have bd44284 : (1 : Int) ≤ zi44279.toInt ∧ zi44279.toInt ≤ 2000 := r_lt_y cn44281 bd35422 bd44280 (by decide) (by decide)
          refine lv_iload_n hx hb dX12_cut_43 rfl (lv_at hl 0 rfl) ?_
          refine lv_bipush (v := 9) hx hb dX12_cut_44 (by decide) ?_
          have jn46486 : ∀ (hp46478 : Nat → Nat → Value) (zi46477 : Int32) (zi46482 : Int32) (H : Heap) (locs : List Loc) (ls : Array Slot), Ok K hp46478 → Fr [13010, 62000, 63000, 64000, 65000] K hp35417 hp46478 → ((0 : Int) ≤ zi46477.toInt ∧ zi46477.toInt ≤ 3999) → ((0 : Int) ≤ zi46482.toInt ∧ zi46482.toInt ≤ 401) → hp46478 qa900 10 = .int zi46482 → (10000*zi46482.toInt + (zi46477 : Int32).toInt ≥ 10000*zi35421.toInt + (zi35416 : Int32).toInt + 1) → lv_has ls 8 [(0, .ref qa900), (1, .int zi46477)] → PW G cy K ln Ls A hp46478 H → va_S A s.heap H locs → W p l e ({ frames := 2, cells := 0, slots := 0, locals := 49 } : Room) s m ([.ref qa900] : List Value).toArray below meth c H locs 0 0 Q (F0 m 291 ls []) := by
            intro hp46478 zi46477 zi46482 H locs ls ok46480 F46479 bd46484 bd46485 eq46481 rq46483 hl hw hS
            refine lv_goto (tgt := 7) hx hb dX12_cut_291 (by decide) ?_
            exact ih44265 hp46478 zi46477 zi46482 _ _ ls (by have := hm44267; omega) ok46480 (Fr.tr (Fr.tr (Fr.rf) F35418 (by decide)) F46479 (by decide)) (b_wid2 bd46484 (by decide) (by decide)) (b_wid2 bd46485 (by decide) (by decide)) eq46481 (lv_sub hl [0, 1] rfl) hw hS
          refine lv_icmp_eq (tgt := 67) hx hb dX12_cut_46 (by decide) (fun cn44285 => ?_) (fun cn44285 => ?_)
          · skip
            have bd46487 : (9 : Int) ≤ zi44275.toInt ∧ zi44275.toInt ≤ 9 := r_eq_x cn44285 bd44276 bc_9 (by decide) (by decide)
            obtain ⟨zi46488, ea46489⟩ : ∃ z : Int32, z = zi35416 + 1 := ⟨_, rfl⟩
            have bd46490 : (1 : Int) ≤ zi46488.toInt ∧ zi46488.toInt ≤ 2000 := b_iadd ea46489 bd44283 bc_1 (by decide) (by decide) (by decide) (by decide)
            have qe46491 : zi46488.toInt = (zi35416 : Int32).toInt + (1 : Int32).toInt := e_iadd ea46489 bd44283 bc_1 (by decide) (by decide)
            have qe46492 : zi46488.toInt = zi35416.toInt + 1 := by have ha : (1 : Int32).toInt = 1 := (by decide); rw [ha] at qe46491; exact qe46491
            refine lv_iinc (v := zi46488) (lv' := [(1, .int zi46488), (2, .int zi44275), (0, .ref qa900)]) hx hb dX12_cut_67 hl (k := 2) rfl ea46489.symm (by decide) rfl (fun ls hl => ?_)
            refine lv_goto (tgt := 291) hx hb dX12_cut_70 (by decide) ?_
            exact jn46486 hp35417 zi46488 zi35421 _ _ ls ok35419 (Fr.rf) (b_wid2 bd46490 (by decide) (by decide)) (b_wid2 bd44270 (by decide) (by decide)) eq35420 (by omega) (lv_sub hl [2, 0] rfl) hw hS
          · skip
            have tf46493 : (zi44275 : Int32).toInt ≠ (9 : Int32).toInt := fun e => cn44285 (Int32.toInt_inj.mp e)
            have := toi bc_9
            refine lv_iload_n hx hb dX12_cut_49 rfl (lv_at hl 0 rfl) ?_
            refine lv_bipush (v := 10) hx hb dX12_cut_50 (by decide) ?_
            refine lv_icmp_eq (tgt := 67) hx hb dX12_cut_52 (by decide) (fun cn46494 => ?_) (fun cn46494 => ?_)
            · skip
              have bd46495 : (10 : Int) ≤ zi44275.toInt ∧ zi44275.toInt ≤ 10 := r_eq_x cn46494 bd44276 bc_10 (by decide) (by decide)
              obtain ⟨zi46496, ea46497⟩ : ∃ z : Int32, z = zi35416 + 1 := ⟨_, rfl⟩
              have bd46498 : (1 : Int) ≤ zi46496.toInt ∧ zi46496.toInt ≤ 2000 := b_iadd ea46497 bd44283 bc_1 (by decide) (by decide) (by decide) (by decide)
              have qe46499 : zi46496.toInt = (zi35416 : Int32).toInt + (1 : Int32).toInt := e_iadd ea46497 bd44283 bc_1 (by decide) (by decide)
              have qe46500 : zi46496.toInt = zi35416.toInt + 1 := by have ha : (1 : Int32).toInt = 1 := (by decide); rw [ha] at qe46499; exact qe46499
              refine lv_iinc (v := zi46496) (lv' := [(1, .int zi46496), (2, .int zi44275), (0, .ref qa900)]) hx hb dX12_cut_67 hl (k := 2) rfl ea46497.symm (by decide) rfl (fun ls hl => ?_)
              refine lv_goto (tgt := 291) hx hb dX12_cut_70 (by decide) ?_
              exact jn46486 hp35417 zi46496 zi35421 _ _ ls ok35419 (Fr.rf) (b_wid2 bd46498 (by decide) (by decide)) (b_wid2 bd44270 (by decide) (by decide)) eq35420 (by omega) (lv_sub hl [2, 0] rfl) hw hS
            · skip
              have tf46501 : (zi44275 : Int32).toInt ≠ (10 : Int32).toInt := fun e => cn46494 (Int32.toInt_inj.mp e)
              have := toi bc_10
              refine lv_iload_n hx hb dX12_cut_55 rfl (lv_at hl 0 rfl) ?_
              refine lv_bipush (v := 13) hx hb dX12_cut_56 (by decide) ?_
              refine lv_icmp_eq (tgt := 67) hx hb dX12_cut_58 (by decide) (fun cn46502 => ?_) (fun cn46502 => ?_)
              · skip
                have bd46503 : (13 : Int) ≤ zi44275.toInt ∧ zi44275.toInt ≤ 13 := r_eq_x cn46502 bd44276 bc_13 (by decide) (by decide)
                obtain ⟨zi46504, ea46505⟩ : ∃ z : Int32, z = zi35416 + 1 := ⟨_, rfl⟩
                have bd46506 : (1 : Int) ≤ zi46504.toInt ∧ zi46504.toInt ≤ 2000 := b_iadd ea46505 bd44283 bc_1 (by decide) (by decide) (by decide) (by decide)
                have qe46507 : zi46504.toInt = (zi35416 : Int32).toInt + (1 : Int32).toInt := e_iadd ea46505 bd44283 bc_1 (by decide) (by decide)
                have qe46508 : zi46504.toInt = zi35416.toInt + 1 := by have ha : (1 : Int32).toInt = 1 := (by decide); rw [ha] at qe46507; exact qe46507
                refine lv_iinc (v := zi46504) (lv' := [(1, .int zi46504), (2, .int zi44275), (0, .ref qa900)]) hx hb dX12_cut_67 hl (k := 2) rfl ea46505.symm (by decide) rfl (fun ls hl => ?_)
                refine lv_goto (tgt := 291) hx hb dX12_cut_70 (by decide) ?_
                exact jn46486 hp35417 zi46504 zi35421 _ _ ls ok35419 (Fr.rf) (b_wid2 bd46506 (by decide) (by decide)) (b_wid2 bd44270 (by decide) (by decide)) eq35420 (by omega) (lv_sub hl [2, 0] rfl) hw hS
              · skip
                have tf46509 : (zi44275 : Int32).toInt ≠ (13 : Int32).toInt := fun e => cn46502 (Int32.toInt_inj.mp e)
                have := toi bc_13
                refine lv_iload_n hx hb dX12_cut_61 rfl (lv_at hl 0 rfl) ?_
                refine lv_bipush (v := 32) hx hb dX12_cut_62 (by decide) ?_
                refine lv_icmp_ne (tgt := 73) hx hb dX12_cut_64 (by decide) (fun cn46510 => ?_) (fun cn46510 => ?_)
                · skip
                  have tf46511 : (zi44275 : Int32).toInt ≠ (32 : Int32).toInt := fun e => cn46510 (Int32.toInt_inj.mp e)
                  have := toi bc_32
                  refine lv_iload_n hx hb dX12_cut_73 rfl (lv_at hl 0 rfl) ?_
                  refine kq_i hw hS hA (va_runS (As := [.int zi44275]) (rest := []) ⟨hx, hb, hml, hown, hT⟩ (cX12_isLetter_0 l G cy ev K ln Ls hW _ hp35417 ok35419 zi44275) (va_cwS 1 hT (good_S tb_1612 tb_1610 tb_1611 tb_122) rfl rfl rfl (by decide +kernel) ⟨Nat.le_of_ble_eq_true rfl, Nat.le_of_ble_eq_true rfl⟩) (PB2.preS hK hE hS hA hw) rfl rfl hl.1 rfl (lv_room (Nat.le_of_ble_eq_true rfl)) dX12_cut_74 ⟨Nat.le_of_ble_eq_true rfl, Nat.le_of_ble_eq_true rfl⟩) (fun zi46516 hp46512 H locs hq46515 hw hS => ?_)
                  obtain ⟨ok46513, F46514, bd46517, hc46518⟩ := hq46515
                  obtain rfl : hp35417 = hp46512 := (Fr.nil F46514).symm
                  have hw : PW G cy K ln Ls A hp35417 H := hw
                  rcases b01 bd46517 with cn46519 | cn46519
                  · skip
                    subst cn46519
                    refine lv_if_eq (tgt := 196) hx hb dX12_cut_77 (by decide) (fun _ => ?_) (fun c => absurd (d_eq bc_0 bc_0) c)
                    refine lv_iload_n hx hb dX12_cut_196 rfl (lv_at hl 0 rfl) ?_
                    refine kq_i hw hS hA (va_runS (As := [.int zi44275]) (rest := []) ⟨hx, hb, hml, hown, hT⟩ (cX12_isDigit_0 l G cy ev K ln Ls hW _ hp35417 ok35419 zi44275) (va_cwS 1 hT (good_S tb_1615 tb_1613 tb_1614 tb_122) rfl rfl rfl (by decide +kernel) ⟨Nat.le_of_ble_eq_true rfl, Nat.le_of_ble_eq_true rfl⟩) (PB2.preS hK hE hS hA hw) rfl rfl hl.1 rfl (lv_room (Nat.le_of_ble_eq_true rfl)) dX12_cut_197 ⟨Nat.le_of_ble_eq_true rfl, Nat.le_of_ble_eq_true rfl⟩) (fun zi46524 hp46520 H locs hq46523 hw hS => ?_)
                    obtain ⟨ok46521, F46522, bd46525, hc46526⟩ := hq46523
                    obtain rfl : hp35417 = hp46520 := (Fr.nil F46522).symm
                    have hw : PW G cy K ln Ls A hp35417 H := hw
                    rcases b01 bd46525 with cn46527 | cn46527
                    · skip
                      subst cn46527
                      refine lv_if_eq (tgt := 275) hx hb dX12_cut_200 (by decide) (fun _ => ?_) (fun c => absurd (d_eq bc_0 bc_0) c)
                      refine lv_iload_n hx hb dX12_cut_275 rfl (lv_at hl 2 rfl) ?_
                      refine lv_aload_n hx hb dX12_cut_276 rfl (lv_at hl 1 rfl) ?_
                      refine lv_iload_n hx hb dX12_cut_277 rfl (lv_at hl 2 rfl) ?_
                      refine lv_iload_n hx hb dX12_cut_278 rfl (lv_at hl 0 rfl) ?_
                      refine lv_aload_n hx hb dX12_cut_279 rfl (lv_at hl 1 rfl) ?_
                      refine lv_iload_n hx hb dX12_cut_280 rfl (lv_at hl 2 rfl) ?_
                      refine lv_iconst (v := 1) hx hb dX12_cut_281 (by decide) ?_
                      refine lv_iadd hx hb dX12_cut_282 (lv_topi (fun zi46528 ea46529 => ?_))
                      have bd46530 : (1 : Int) ≤ zi46528.toInt ∧ zi46528.toInt ≤ 2000 := b_iadd ea46529 bd44283 bc_1 (by decide) (by decide) (by decide) (by decide)
                      have qe46531 : zi46528.toInt = (zi35416 : Int32).toInt + (1 : Int32).toInt := e_iadd ea46529 bd44283 bc_1 (by decide) (by decide)
                      have qe46532 : zi46528.toInt = zi35416.toInt + 1 := by have ha : (1 : Int32).toInt = 1 := (by decide); rw [ha] at qe46531; exact qe46531
                      refine kq_i hw hS hA (va_runV (As := [.int zi46528]) (rest := [.int zi44275, .int zi35416, .ref qa900, .int zi35416]) ⟨hx, hb, hml, hown, hT⟩ (cX12_byteAt_0 l G cy ev K ln Ls hW _ hp35417 ok35419 qa900 zi46528 kd900 (b_wid2 bd46530 (by decide) (by decide))) (cwV 1 hT (good_V tb_1605 tb_1602 tb_1604 tb_49 tb_122) rfl rfl rfl (by decide +kernel) ⟨Nat.le_of_ble_eq_true rfl, Nat.le_of_ble_eq_true rfl⟩) (pool_preV (ci := 12) hK hE hS hA hw hW kd900 (by decide) rfl) rfl rfl hl.1 rfl (lv_room (Nat.le_of_ble_eq_true rfl)) dX12_cut_283 ⟨Nat.le_of_ble_eq_true rfl, Nat.le_of_ble_eq_true rfl⟩) (fun zi46537 hp46533 H locs hq46536 hw hS => ?_)
                      obtain ⟨ok46534, F46535, bd46538, hi46539⟩ := hq46536
                      obtain rfl : hp35417 = hp46533 := (Fr.nil F46535).symm
                      have hw : PW G cy K ln Ls A hp35417 H := hw
                      refine kq_i hw hS hA (va_runV (As := [.int zi35416, .int zi44275, .int zi46537]) (rest := [.int zi35416]) ⟨hx, hb, hml, hown, hT⟩ (cX12_sign_5 l G cy ev K ln Ls hW _ hp35417 ok35419 qa900 zi35416 zi44275 zi46537 zi35421 kd900 eq35420 (b_wid2 bd44270 (by decide) (by decide))) (cwV 3 hT (good_V tb_1619 tb_1616 tb_1618 tb_51 tb_122) rfl rfl rfl (by decide +kernel) ⟨Nat.le_of_ble_eq_true rfl, Nat.le_of_ble_eq_true rfl⟩) (pool_preV (ci := 12) hK hE hS hA hw hW kd900 (by decide) rfl) rfl rfl hl.1 rfl (lv_room (Nat.le_of_ble_eq_true rfl)) dX12_cut_286 ⟨Nat.le_of_ble_eq_true rfl, Nat.le_of_ble_eq_true rfl⟩) (fun zi46544 hp46540 H locs hq46543 hw hS => ?_)
                      obtain ⟨ok46541, F46542, bd46545, ⟨zi46546, eq46547, bd46548⟩, rh46549⟩ := hq46543
                      have hw : PW G cy K ln Ls A hp46540 H := hw
                      simp only [gi_of eq35420, gi_of eq46547] at rh46549
                      refine lv_iadd hx hb dX12_cut_289 (lv_topi (fun zi46550 ea46551 => ?_))
                      have bd46552 : (1 : Int) ≤ zi46550.toInt ∧ zi46550.toInt ≤ 2000 := b_iadd ea46551 bd44283 bd46545 (by decide) (by decide) (by decide) (by decide)
                      have qe46553 : zi46550.toInt = zi35416.toInt + zi46544.toInt := e_iadd ea46551 bd44283 bd46545 (by decide) (by decide)
                      refine lv_istore_n (lv' := [(1, .int zi46550), (2, .int zi44275), (0, .ref qa900)]) hx hb dX12_cut_290 rfl hl (by decide) rfl (fun ls hl => ?_)
                      exact jn46486 hp46540 zi46550 zi46546 _ _ ls ok46541 (Fr.tr (Fr.rf) F46542 (by decide)) (b_wid2 bd46552 (by decide) (by decide)) (b_wid2 bd46548 (by decide) (by decide)) eq46547 (by omega) (lv_sub hl [2, 0] rfl) hw hS
                    · skip
                      subst cn46527
                      have bd46554 : (48 : Int) ≤ zi44275.toInt ∧ zi44275.toInt ≤ 57 := b_meet bd44276 (hc46526 rfl) (by decide) (by decide)
                      refine lv_if_eq (tgt := 275) hx hb dX12_cut_200 (by decide) (fun c => absurd c (d_ne bc_1 bc_0 (by decide))) (fun _ => ?_)
                      refine lv_iconst (v := 0) hx hb dX12_cut_203 (by decide) ?_
                      refine lv_istore_n (lv' := [(3, .int 0), (2, .int zi44275), (0, .ref qa900), (1, .int zi35416)]) hx hb dX12_cut_204 rfl hl (by decide) rfl (fun ls hl => ?_)
                      refine lv_iconst (v := 0) hx hb dX12_cut_205 (by decide) ?_
                      refine lv_istore (lv' := [(4, .int 0), (3, .int 0), (2, .int zi44275), (0, .ref qa900), (1, .int zi35416)]) hx hb dX12_cut_206 hl (by decide) rfl (fun ls hl => ?_)
                      have lp47184 : ∀ (n47182 : Nat) (zi47043 : Int32) (zi47044 : Int32) (H : Heap) (locs : List Loc) (ls : Array Slot), 2000 - zi47043.toInt < (n47182 : Int) → ((0 : Int) ≤ zi47043.toInt ∧ zi47043.toInt ≤ 2000) → lv_has ls 8 [(0, .ref qa900), (1, .int zi35416), (3, .int zi47043), (4, .int zi47044)] → PW G cy K ln Ls A hp35417 H → va_S A s.heap H locs → W p l e ({ frames := 2, cells := 0, slots := 0, locals := 49 } : Room) s m ([.ref qa900] : List Value).toArray below meth c H locs 0 0 Q (F0 m 208 ls []) := by
                        intro n47182
                        induction n47182 with
                        | zero =>
                          intro zi47043 zi47044 H locs ls hm47185 bd47045 hl hw hS
                          exact absurd hm47185 (by have := bd47045; omega)
                        | succ n47182 ih47183 =>
                          intro zi47043 zi47044 H locs ls hm47185 bd47045 hl hw hS
                          refine lv_aload_n hx hb dX12_cut_208 rfl (lv_at hl 0 rfl) ?_
                          refine lv_iload_n hx hb dX12_cut_209 rfl (lv_at hl 1 rfl) ?_
                          refine lv_iload_n hx hb dX12_cut_210 rfl (lv_at hl 2 rfl) ?_
                          refine lv_iadd hx hb dX12_cut_211 (lv_topi (fun zi47186 ea47187 => ?_))
                          have bd47188 : (0 : Int) ≤ zi47186.toInt ∧ zi47186.toInt ≤ 3999 := b_iadd ea47187 bd44283 bd47045 (by decide) (by decide) (by decide) (by decide)
                          have qe47189 : zi47186.toInt = zi35416.toInt + zi47043.toInt := e_iadd ea47187 bd44283 bd47045 (by decide) (by decide)
                          refine kq_i hw hS hA (va_runV (As := [.int zi47186]) (rest := []) ⟨hx, hb, hml, hown, hT⟩ (cX12_byteAt_0 l G cy ev K ln Ls hW _ hp35417 ok35419 qa900 zi47186 kd900 (b_wid2 bd47188 (by decide) (by decide))) (cwV 1 hT (good_V tb_1605 tb_1602 tb_1604 tb_49 tb_122) rfl rfl rfl (by decide +kernel) ⟨Nat.le_of_ble_eq_true rfl, Nat.le_of_ble_eq_true rfl⟩) (pool_preV (ci := 12) hK hE hS hA hw hW kd900 (by decide) rfl) rfl rfl hl.1 rfl (lv_room (Nat.le_of_ble_eq_true rfl)) dX12_cut_212 ⟨Nat.le_of_ble_eq_true rfl, Nat.le_of_ble_eq_true rfl⟩) (fun zi47194 hp47190 H locs hq47193 hw hS => ?_)
                          obtain ⟨ok47191, F47192, bd47195, hi47196⟩ := hq47193
                          obtain rfl : hp35417 = hp47190 := (Fr.nil F47192).symm
                          have hw : PW G cy K ln Ls A hp35417 H := hw
                          refine kq_i hw hS hA (va_runS (As := [.int zi47194]) (rest := []) ⟨hx, hb, hml, hown, hT⟩ (cX12_isDigit_0 l G cy ev K ln Ls hW _ hp35417 ok35419 zi47194) (va_cwS 1 hT (good_S tb_1615 tb_1613 tb_1614 tb_122) rfl rfl rfl (by decide +kernel) ⟨Nat.le_of_ble_eq_true rfl, Nat.le_of_ble_eq_true rfl⟩) (PB2.preS hK hE hS hA hw) rfl rfl hl.1 rfl (lv_room (Nat.le_of_ble_eq_true rfl)) dX12_cut_215 ⟨Nat.le_of_ble_eq_true rfl, Nat.le_of_ble_eq_true rfl⟩) (fun zi47201 hp47197 H locs hq47200 hw hS => ?_)
                          obtain ⟨ok47198, F47199, bd47202, hc47203⟩ := hq47200
                          obtain rfl : hp35417 = hp47197 := (Fr.nil F47199).symm
                          have hw : PW G cy K ln Ls A hp35417 H := hw
                          rcases b01 bd47202 with cn47204 | cn47204
                          · skip
                            subst cn47204
                            refine lv_if_eq (tgt := 250) hx hb dX12_cut_218 (by decide) (fun _ => ?_) (fun c => absurd (d_eq bc_0 bc_0) c)
                            refine lv_aload_n hx hb dX12_cut_250 rfl (lv_at hl 0 rfl) ?_
                            refine lv_iload_n hx hb dX12_cut_251 rfl (lv_at hl 2 rfl) ?_
                            refine lv_iconst (v := 4) hx hb dX12_cut_252 (by decide) ?_
                            have jn47259 : ∀ (zi47257 : Int32) (H : Heap) (locs : List Loc) (ls : Array Slot), ((2 : Int) ≤ zi47257.toInt ∧ zi47257.toInt ≤ 3) → lv_has ls 8 [(0, .ref qa900), (1, .int zi35416), (3, .int zi47043), (4, .int zi47044)] → PW G cy K ln Ls A hp35417 H → va_S A s.heap H locs → W p l e ({ frames := 2, cells := 0, slots := 0, locals := 49 } : Room) s m ([.ref qa900] : List Value).toArray below meth c H locs 0 0 Q (F0 m 261 ls [.int zi47257, .ref qa900]) := by
                              intro zi47257 H locs ls bd47258 hl hw hS
                              refine lv_iload_n hx hb dX12_cut_261 rfl (lv_at hl 1 rfl) ?_
                              refine lv_iload hx hb dX12_cut_262 (lv_at hl 3 rfl) ?_
                              refine lv_lconst (v := 0) hx hb dX12_cut_264 (by decide) ?_
                              refine kq_v hw hS hA (va_runV (As := [.int zi47257, .int zi35416, .int zi47044, .long 0]) (rest := []) ⟨hx, hb, hml, hown, hT⟩ (cX12_token_5 l G cy ev K ln Ls hW _ hp35417 ok35419 qa900 zi47257 zi35416 zi47044 0 zi35421 kd900 eq35420 (b_wid2 bd44270 (by decide) (by decide))) (cwV 4 hT (good_V tb_1609 tb_1606 tb_1608 tb_50 tb_122) rfl rfl rfl (by decide +kernel) ⟨Nat.le_of_ble_eq_true rfl, Nat.le_of_ble_eq_true rfl⟩) (pool_preV (ci := 12) hK hE hS hA hw hW kd900 (by decide) rfl) rfl rfl hl.1 rfl (lv_room (Nat.le_of_ble_eq_true rfl)) dX12_cut_265 ⟨Nat.le_of_ble_eq_true rfl, Nat.le_of_ble_eq_true rfl⟩) (fun hp47260 H locs hq47263 hw hS => ?_)
                              obtain ⟨ok47261, F47262, ⟨zi47265, eq47266, bd47267⟩, rh47268⟩ := hq47263
                              have hw : PW G cy K ln Ls A hp47260 H := hw
                              simp only [gi_of eq35420, gi_of eq47266] at rh47268
                              refine lv_iload_n hx hb dX12_cut_268 rfl (lv_at hl 1 rfl) ?_
                              refine lv_iload_n hx hb dX12_cut_269 rfl (lv_at hl 2 rfl) ?_
                              refine lv_iadd hx hb dX12_cut_270 (lv_topi (fun zi47269 ea47270 => ?_))
                              have bd47271 : (0 : Int) ≤ zi47269.toInt ∧ zi47269.toInt ≤ 3999 := b_iadd ea47270 bd44283 bd47045 (by decide) (by decide) (by decide) (by decide)
                              have qe47272 : zi47269.toInt = zi35416.toInt + zi47043.toInt := e_iadd ea47270 bd44283 bd47045 (by decide) (by decide)
                              refine lv_istore_n (lv' := [(1, .int zi47269), (0, .ref qa900), (3, .int zi47043), (4, .int zi47044)]) hx hb dX12_cut_271 rfl hl (by decide) rfl (fun ls hl => ?_)
                              refine lv_goto (tgt := 291) hx hb dX12_cut_272 (by decide) ?_
                              exact jn46486 hp47260 zi47269 zi47265 _ _ ls ok47261 (Fr.tr (Fr.rf) F47262 (by decide)) (b_wid2 bd47271 (by decide) (by decide)) (b_wid2 bd47267 (by decide) (by decide)) eq47266 (by omega) (lv_sub hl [1, 0] rfl) hw hS
                            refine lv_icmp_le (tgt := 260) hx hb dX12_cut_253 (by decide) (fun cn47254 => ?_) (fun cn47254 => ?_)
                            · skip
                              have bd47273 : (0 : Int) ≤ zi47043.toInt ∧ zi47043.toInt ≤ 4 := r_le_x cn47254 bd47045 bc_4 (by decide) (by decide)
                              refine lv_iconst (v := 2) hx hb dX12_cut_260 (by decide) ?_
                              exact jn47259 2 _ _ ls (b_wid2 bc_2 (by decide) (by decide)) (lv_sub hl [0, 1, 2, 3] rfl) hw hS
                            · skip
                              have bd47274 : (5 : Int) ≤ zi47043.toInt ∧ zi47043.toInt ≤ 2000 := r_lt_y (Int32.not_le.mp cn47254) bc_4 bd47045 (by decide) (by decide)
                              refine lv_iconst (v := 3) hx hb dX12_cut_256 (by decide) ?_
                              refine lv_goto (tgt := 261) hx hb dX12_cut_257 (by decide) ?_
                              exact jn47259 3 _ _ ls (b_wid2 bc_3 (by decide) (by decide)) (lv_sub hl [0, 1, 2, 3] rfl) hw hS
                          · skip
                            subst cn47204
                            have bd47275 : (48 : Int) ≤ zi47194.toInt ∧ zi47194.toInt ≤ 57 := b_meet bd47195 (hc47203 rfl) (by decide) (by decide)
                            have bd47276 : (0 : Int) ≤ zi47186.toInt ∧ zi47186.toInt ≤ 1999 := b_meet bd47188 (hi47196 (by have := bd47275; omega)) (by decide) (by decide)
                            have bd47277 : (0 : Int) ≤ zi47043.toInt ∧ zi47043.toInt ≤ 1999 := (by have := qe47189; have := bd47276; have := bd44283; have := bd47045; omega)
                            refine lv_if_eq (tgt := 250) hx hb dX12_cut_218 (by decide) (fun c => absurd c (d_ne bc_1 bc_0 (by decide))) (fun _ => ?_)
                            refine lv_iload_n hx hb dX12_cut_221 rfl (lv_at hl 2 rfl) ?_
                            refine lv_iconst (v := 4) hx hb dX12_cut_222 (by decide) ?_
                            have jn47299 : ∀ (zi47298 : Int32) (H : Heap) (locs : List Loc) (ls : Array Slot), lv_has ls 8 [(0, .ref qa900), (1, .int zi35416), (3, .int zi47043), (4, .int zi47298)] → PW G cy K ln Ls A hp35417 H → va_S A s.heap H locs → W p l e ({ frames := 2, cells := 0, slots := 0, locals := 49 } : Room) s m ([.ref qa900] : List Value).toArray below meth c H locs 0 0 Q (F0 m 244 ls []) := by
                              intro zi47298 H locs ls hl hw hS
                              obtain ⟨zi47300, ea47301⟩ : ∃ z : Int32, z = zi47043 + 1 := ⟨_, rfl⟩
                              have bd47302 : (1 : Int) ≤ zi47300.toInt ∧ zi47300.toInt ≤ 2000 := b_iadd ea47301 bd47277 bc_1 (by decide) (by decide) (by decide) (by decide)
                              have qe47303 : zi47300.toInt = (zi47043 : Int32).toInt + (1 : Int32).toInt := e_iadd ea47301 bd47277 bc_1 (by decide) (by decide)
                              have qe47304 : zi47300.toInt = zi47043.toInt + 1 := by have ha : (1 : Int32).toInt = 1 := (by decide); rw [ha] at qe47303; exact qe47303
                              refine lv_iinc (v := zi47300) (lv' := [(3, .int zi47300), (0, .ref qa900), (1, .int zi35416), (4, .int zi47298)]) hx hb dX12_cut_244 hl (k := 2) rfl ea47301.symm (by decide) rfl (fun ls hl => ?_)
                              refine lv_goto (tgt := 208) hx hb dX12_cut_247 (by decide) ?_
                              exact ih47183 zi47300 zi47298 _ _ ls (by have := hm47185; have := qe47304; omega) (b_wid2 bd47302 (by decide) (by decide)) (lv_sub hl [1, 2, 0, 3] rfl) hw hS
                            refine lv_icmp_ge (tgt := 244) hx hb dX12_cut_223 (by decide) (fun cn47278 => ?_) (fun cn47278 => ?_)
                            · skip
                              have bd47305 : (4 : Int) ≤ zi47043.toInt ∧ zi47043.toInt ≤ 1999 := r_le_y cn47278 bc_4 bd47277 (by decide) (by decide)
                              exact jn47299 zi47044 _ _ ls (lv_sub hl [0, 1, 2, 3] rfl) hw hS
                            · skip
                              have bd47306 : (0 : Int) ≤ zi47043.toInt ∧ zi47043.toInt ≤ 3 := r_lt_x (Int32.not_le.mp cn47278) bd47277 bc_4 (by decide) (by decide)
                              refine lv_bipush (v := 10) hx hb dX12_cut_226 (by decide) ?_
                              refine lv_iload hx hb dX12_cut_228 (lv_at hl 3 rfl) ?_
                              refine lv_imul hx hb dX12_cut_230 (lv_topi (fun zi47307 ea47308 => ?_))
                              refine lv_aload_n hx hb dX12_cut_231 rfl (lv_at hl 0 rfl) ?_
                              refine lv_iload_n hx hb dX12_cut_232 rfl (lv_at hl 1 rfl) ?_
                              refine lv_iload_n hx hb dX12_cut_233 rfl (lv_at hl 2 rfl) ?_
                              refine lv_iadd hx hb dX12_cut_234 (lv_topi (fun zi47309 ea47310 => ?_))
                              have bd47311 : (0 : Int) ≤ zi47309.toInt ∧ zi47309.toInt ≤ 2002 := b_iadd ea47310 bd44283 bd47306 (by decide) (by decide) (by decide) (by decide)
                              have qe47312 : zi47309.toInt = zi35416.toInt + zi47043.toInt := e_iadd ea47310 bd44283 bd47306 (by decide) (by decide)
                              refine kq_i hw hS hA (va_runV (As := [.int zi47309]) (rest := [.int zi47307]) ⟨hx, hb, hml, hown, hT⟩ (cX12_byteAt_0 l G cy ev K ln Ls hW _ hp35417 ok35419 qa900 zi47309 kd900 (b_wid2 bd47311 (by decide) (by decide))) (cwV 1 hT (good_V tb_1605 tb_1602 tb_1604 tb_49 tb_122) rfl rfl rfl (by decide +kernel) ⟨Nat.le_of_ble_eq_true rfl, Nat.le_of_ble_eq_true rfl⟩) (pool_preV (ci := 12) hK hE hS hA hw hW kd900 (by decide) rfl) rfl rfl hl.1 rfl (lv_room (Nat.le_of_ble_eq_true rfl)) dX12_cut_235 ⟨Nat.le_of_ble_eq_true rfl, Nat.le_of_ble_eq_true rfl⟩) (fun zi47317 hp47313 H locs hq47316 hw hS => ?_)
                              obtain ⟨ok47314, F47315, bd47318, hi47319⟩ := hq47316
                              obtain rfl : hp35417 = hp47313 := (Fr.nil F47315).symm
                              have hw : PW G cy K ln Ls A hp35417 H := hw
                              refine lv_iadd hx hb dX12_cut_238 (lv_topi (fun zi47320 ea47321 => ?_))
                              refine lv_bipush (v := 48) hx hb dX12_cut_239 (by decide) ?_
                              refine lv_isub hx hb dX12_cut_241 (lv_topi (fun zi47322 ea47323 => ?_))
                              refine lv_istore (lv' := [(4, .int zi47322), (0, .ref qa900), (1, .int zi35416), (3, .int zi47043)]) hx hb dX12_cut_242 hl (by decide) rfl (fun ls hl => ?_)
                              exact jn47299 zi47322 _ _ ls (lv_sub hl [1, 2, 3, 0] rfl) hw hS
                      exact lp47184 _ 0 0 _ _ ls (lp_in _) (b_wid2 bc_0 (by decide) (by decide)) (lv_sub hl [3, 4, 1, 0] rfl) hw hS
                  · skip
                    subst cn46519
                    have bd47324 : (97 : Int) ≤ zi44275.toInt ∧ zi44275.toInt ≤ 122 := b_meet bd44276 (hc46518 rfl) (by decide) (by decide)
                    refine lv_if_eq (tgt := 196) hx hb dX12_cut_77 (by decide) (fun c => absurd c (d_ne bc_1 bc_0 (by decide))) (fun _ => ?_)
                    refine lv_iconst (v := 0) hx hb dX12_cut_80 (by decide) ?_
                    refine lv_istore_n (lv' := [(3, .int 0), (2, .int zi44275), (0, .ref qa900), (1, .int zi35416)]) hx hb dX12_cut_81 rfl hl (by decide) rfl (fun ls hl => ?_)
                    refine lv_lconst (v := 0) hx hb dX12_cut_82 (by decide) ?_
                    refine lv_lstore (lv' := [(4, .long 0), (3, .int 0), (2, .int zi44275), (0, .ref qa900), (1, .int zi35416)]) hx hb dX12_cut_83 hl (by decide) rfl (fun ls hl => ?_)
                    have lp47932 : ∀ (n47930 : Nat) (zi47795 : Int32) (wl47796 : Int64) (H : Heap) (locs : List Loc) (ls : Array Slot), 2000 - zi47795.toInt < (n47930 : Int) → ((0 : Int) ≤ zi47795.toInt ∧ zi47795.toInt ≤ 2000) → lv_has ls 8 [(0, .ref qa900), (1, .int zi35416), (3, .int zi47795), (4, .long wl47796)] → PW G cy K ln Ls A hp35417 H → va_S A s.heap H locs → W p l e ({ frames := 2, cells := 0, slots := 0, locals := 49 } : Room) s m ([.ref qa900] : List Value).toArray below meth c H locs 0 0 Q (F0 m 85 ls []) := by
                      intro n47930
                      induction n47930 with
                      | zero =>
                        intro zi47795 wl47796 H locs ls hm47933 bd47797 hl hw hS
                        exact absurd hm47933 (by have := bd47797; omega)
                      | succ n47930 ih47931 =>
                        intro zi47795 wl47796 H locs ls hm47933 bd47797 hl hw hS
                        refine lv_aload_n hx hb dX12_cut_85 rfl (lv_at hl 0 rfl) ?_
                        refine lv_iload_n hx hb dX12_cut_86 rfl (lv_at hl 1 rfl) ?_
                        refine lv_iload_n hx hb dX12_cut_87 rfl (lv_at hl 2 rfl) ?_
                        refine lv_iadd hx hb dX12_cut_88 (lv_topi (fun zi47934 ea47935 => ?_))
                        have bd47936 : (0 : Int) ≤ zi47934.toInt ∧ zi47934.toInt ≤ 3999 := b_iadd ea47935 bd44283 bd47797 (by decide) (by decide) (by decide) (by decide)
                        have qe47937 : zi47934.toInt = zi35416.toInt + zi47795.toInt := e_iadd ea47935 bd44283 bd47797 (by decide) (by decide)
                        refine kq_i hw hS hA (va_runV (As := [.int zi47934]) (rest := []) ⟨hx, hb, hml, hown, hT⟩ (cX12_byteAt_0 l G cy ev K ln Ls hW _ hp35417 ok35419 qa900 zi47934 kd900 (b_wid2 bd47936 (by decide) (by decide))) (cwV 1 hT (good_V tb_1605 tb_1602 tb_1604 tb_49 tb_122) rfl rfl rfl (by decide +kernel) ⟨Nat.le_of_ble_eq_true rfl, Nat.le_of_ble_eq_true rfl⟩) (pool_preV (ci := 12) hK hE hS hA hw hW kd900 (by decide) rfl) rfl rfl hl.1 rfl (lv_room (Nat.le_of_ble_eq_true rfl)) dX12_cut_89 ⟨Nat.le_of_ble_eq_true rfl, Nat.le_of_ble_eq_true rfl⟩) (fun zi47942 hp47938 H locs hq47941 hw hS => ?_)
                        obtain ⟨ok47939, F47940, bd47943, hi47944⟩ := hq47941
                        obtain rfl : hp35417 = hp47938 := (Fr.nil F47940).symm
                        have hw : PW G cy K ln Ls A hp35417 H := hw
                        refine kq_i hw hS hA (va_runS (As := [.int zi47942]) (rest := []) ⟨hx, hb, hml, hown, hT⟩ (cX12_isLetter_0 l G cy ev K ln Ls hW _ hp35417 ok35419 zi47942) (va_cwS 1 hT (good_S tb_1612 tb_1610 tb_1611 tb_122) rfl rfl rfl (by decide +kernel) ⟨Nat.le_of_ble_eq_true rfl, Nat.le_of_ble_eq_true rfl⟩) (PB2.preS hK hE hS hA hw) rfl rfl hl.1 rfl (lv_room (Nat.le_of_ble_eq_true rfl)) dX12_cut_92 ⟨Nat.le_of_ble_eq_true rfl, Nat.le_of_ble_eq_true rfl⟩) (fun zi47949 hp47945 H locs hq47948 hw hS => ?_)
                        obtain ⟨ok47946, F47947, bd47950, hc47951⟩ := hq47948
                        obtain rfl : hp35417 = hp47945 := (Fr.nil F47947).symm
                        have hw : PW G cy K ln Ls A hp35417 H := hw
                        rcases b01 bd47950 with cn47952 | cn47952
                        · skip
                          subst cn47952
                          refine lv_if_eq (tgt := 124) hx hb dX12_cut_95 (by decide) (fun _ => ?_) (fun c => absurd (d_eq bc_0 bc_0) c)
                          refine lv_iload_n hx hb dX12_cut_124 rfl (lv_at hl 2 rfl) ?_
                          refine lv_bipush (v := 8) hx hb dX12_cut_125 (by decide) ?_
                          have jn48005 : ∀ (zi48003 : Int32) (H : Heap) (locs : List Loc) (ls : Array Slot), ((1 : Int) ≤ zi48003.toInt ∧ zi48003.toInt ≤ 3) → lv_has ls 8 [(0, .ref qa900), (1, .int zi35416), (3, .int zi47795), (4, .long wl47796)] → PW G cy K ln Ls A hp35417 H → va_S A s.heap H locs → W p l e ({ frames := 2, cells := 0, slots := 0, locals := 49 } : Room) s m ([.ref qa900] : List Value).toArray below meth c H locs 0 0 Q (F0 m 135 ls [.int zi48003]) := by
                            intro zi48003 H locs ls bd48004 hl hw hS
                            refine lv_istore (lv' := [(6, .int zi48003), (0, .ref qa900), (1, .int zi35416), (3, .int zi47795), (4, .long wl47796)]) hx hb dX12_cut_135 hl (by decide) rfl (fun ls hl => ?_)
                            refine lv_iload_n hx hb dX12_cut_137 rfl (lv_at hl 3 rfl) ?_
                            refine lv_bipush (v := 7) hx hb dX12_cut_138 (by decide) ?_
                            have jn48309 : ∀ (zi48307 : Int32) (H : Heap) (locs : List Loc) (ls : Array Slot), ((1 : Int) ≤ zi48307.toInt ∧ zi48307.toInt ≤ 64) → lv_has ls 8 [(0, .ref qa900), (1, .int zi35416), (3, .int zi47795), (4, .long wl47796), (6, .int zi48307)] → PW G cy K ln Ls A hp35417 H → va_S A s.heap H locs → W p l e ({ frames := 2, cells := 0, slots := 0, locals := 49 } : Room) s m ([.ref qa900] : List Value).toArray below meth c H locs 0 0 Q (F0 m 179 ls []) := by
                              intro zi48307 H locs ls bd48308 hl hw hS
                              refine lv_aload_n hx hb dX12_cut_179 rfl (lv_at hl 0 rfl) ?_
                              refine lv_iload hx hb dX12_cut_180 (lv_at hl 4 rfl) ?_
                              refine lv_iload_n hx hb dX12_cut_182 rfl (lv_at hl 1 rfl) ?_
                              refine lv_iconst (v := 0) hx hb dX12_cut_183 (by decide) ?_
                              refine lv_lload hx hb dX12_cut_184 (lv_at hl 3 rfl) ?_
                              refine kq_v hw hS hA (va_runV (As := [.int zi48307, .int zi35416, .int 0, .long wl47796]) (rest := []) ⟨hx, hb, hml, hown, hT⟩ (cX12_token_5 l G cy ev K ln Ls hW _ hp35417 ok35419 qa900 zi48307 zi35416 0 wl47796 zi35421 kd900 eq35420 (b_wid2 bd44270 (by decide) (by decide))) (cwV 4 hT (good_V tb_1609 tb_1606 tb_1608 tb_50 tb_122) rfl rfl rfl (by decide +kernel) ⟨Nat.le_of_ble_eq_true rfl, Nat.le_of_ble_eq_true rfl⟩) (pool_preV (ci := 12) hK hE hS hA hw hW kd900 (by decide) rfl) rfl rfl hl.1 rfl (lv_room (Nat.le_of_ble_eq_true rfl)) dX12_cut_186 ⟨Nat.le_of_ble_eq_true rfl, Nat.le_of_ble_eq_true rfl⟩) (fun hp48310 H locs hq48313 hw hS => ?_)
                              obtain ⟨ok48311, F48312, ⟨zi48315, eq48316, bd48317⟩, rh48318⟩ := hq48313
                              have hw : PW G cy K ln Ls A hp48310 H := hw
                              simp only [gi_of eq35420, gi_of eq48316] at rh48318
                              refine lv_iload_n hx hb dX12_cut_189 rfl (lv_at hl 1 rfl) ?_
                              refine lv_iload_n hx hb dX12_cut_190 rfl (lv_at hl 2 rfl) ?_
                              refine lv_iadd hx hb dX12_cut_191 (lv_topi (fun zi48319 ea48320 => ?_))
                              have bd48321 : (0 : Int) ≤ zi48319.toInt ∧ zi48319.toInt ≤ 3999 := b_iadd ea48320 bd44283 bd47797 (by decide) (by decide) (by decide) (by decide)
                              have qe48322 : zi48319.toInt = zi35416.toInt + zi47795.toInt := e_iadd ea48320 bd44283 bd47797 (by decide) (by decide)
                              refine lv_istore_n (lv' := [(1, .int zi48319), (0, .ref qa900), (3, .int zi47795), (4, .long wl47796), (6, .int zi48307)]) hx hb dX12_cut_192 rfl hl (by decide) rfl (fun ls hl => ?_)
                              refine lv_goto (tgt := 291) hx hb dX12_cut_193 (by decide) ?_
                              exact jn46486 hp48310 zi48319 zi48315 _ _ ls ok48311 (Fr.tr (Fr.rf) F48312 (by decide)) (b_wid2 bd48321 (by decide) (by decide)) (b_wid2 bd48317 (by decide) (by decide)) eq48316 (by omega) (lv_sub hl [1, 0] rfl) hw hS
                            refine lv_icmp_gt (tgt := 179) hx hb dX12_cut_140 (by decide) (fun cn48006 => ?_) (fun cn48006 => ?_)
                            · skip
                              have bd48323 : (8 : Int) ≤ zi47795.toInt ∧ zi47795.toInt ≤ 2000 := r_lt_y cn48006 bc_7 bd47797 (by decide) (by decide)
                              exact jn48309 zi48003 _ _ ls (b_wid2 bd48004 (by decide) (by decide)) (lv_sub hl [1, 2, 3, 4, 0] rfl) hw hS
                            · skip
                              have bd48324 : (0 : Int) ≤ zi47795.toInt ∧ zi47795.toInt ≤ 7 := r_le_x (Int32.not_lt.mp cn48006) bd47797 bc_7 (by decide) (by decide)
                              refine lv_iconst (v := 0) hx hb dX12_cut_143 (by decide) ?_
                              refine lv_istore (lv' := [(7, .int 0), (6, .int zi48003), (0, .ref qa900), (1, .int zi35416), (3, .int zi47795), (4, .long wl47796)]) hx hb dX12_cut_144 hl (by decide) rfl (fun ls hl => ?_)
                              have lp48588 : ∀ (n48586 : Nat) (zi48516 : Int32) (zi48517 : Int32) (H : Heap) (locs : List Loc) (ls : Array Slot), 18 - zi48517.toInt < (n48586 : Int) → ((1 : Int) ≤ zi48516.toInt ∧ zi48516.toInt ≤ 64) → ((0 : Int) ≤ zi48517.toInt ∧ zi48517.toInt ≤ 18) → lv_has ls 8 [(0, .ref qa900), (1, .int zi35416), (3, .int zi47795), (4, .long wl47796), (6, .int zi48516), (7, .int zi48517)] → PW G cy K ln Ls A hp35417 H → va_S A s.heap H locs → W p l e ({ frames := 2, cells := 0, slots := 0, locals := 49 } : Room) s m ([.ref qa900] : List Value).toArray below meth c H locs 0 0 Q (F0 m 146 ls []) := by
                                intro n48586
                                induction n48586 with
                                | zero =>
                                  intro zi48516 zi48517 H locs ls hm48589 bd48518 bd48519 hl hw hS
                                  exact absurd hm48589 (by have := bd48519; omega)
                                | succ n48586 ih48587 =>
                                  intro zi48516 zi48517 H locs ls hm48589 bd48518 bd48519 hl hw hS
                                  refine lv_iload hx hb dX12_cut_146 (lv_at hl 5 rfl) ?_
                                  refine lv_bipush (v := 18) hx hb dX12_cut_148 (by decide) ?_
                                  refine lv_icmp_ge (tgt := 179) hx hb dX12_cut_150 (by decide) (fun cn48590 => ?_) (fun cn48590 => ?_)
                                  · skip
                                    have bd48591 : (18 : Int) ≤ zi48517.toInt ∧ zi48517.toInt ≤ 18 := r_le_y cn48590 bc_18 bd48519 (by decide) (by decide)
                                    exact jn48309 zi48516 _ _ ls (b_wid2 bd48518 (by decide) (by decide)) (lv_sub hl [0, 1, 2, 3, 4] rfl) hw hS
                                  · skip
                                    have bd48592 : (0 : Int) ≤ zi48517.toInt ∧ zi48517.toInt ≤ 17 := r_lt_x (Int32.not_le.mp cn48590) bd48519 bc_18 (by decide) (by decide)
                                    refine lv_aload_n hx hb dX12_cut_153 rfl (lv_at hl 0 rfl) ?_
                                    obtain ⟨qa48594, eq48593, kd48595⟩ := rd_13009 ok35419 kd900
                                    refine p_get (ci := 12) (v := .ref qa48594) (C := RX12) (T := TX12) (N := 69) hx hb hT iw_X12 hown hK hw hW kd900 (by decide) rfl rfl 9 (by decide) eq48593 (hT _ tb_1383) (fun _ h9 => h9) dX12_cut_154 ?_
                                    refine lv_iload hx hb dX12_cut_157 (lv_at hl 5 rfl) ?_
                                    obtain ⟨wl48597, eq48596⟩ := rd_66000 ok35419 kd48595 ((zi48517 : Int32).toNatClampNeg)
                                    refine p_lald (v := wl48597) hx hb hK hw hW kd48595 (by decide) rfl (hW.len kd48595 (n := 18) rfl (by decide)) (vp_b bd48592 (by decide) (by decide)) eq48596 dX12_cut_159 ?_
                                    refine lv_lload hx hb dX12_cut_160 (lv_at hl 3 rfl) ?_
                                    refine W.lcmp hx hb dX12_cut_162 (lv_topi (fun zi48598 ea48599 => ?_))
                                    have jn48610 : ∀ (zi48608 : Int32) (H : Heap) (locs : List Loc) (ls : Array Slot), ((1 : Int) ≤ zi48608.toInt ∧ zi48608.toInt ≤ 64) → lv_has ls 8 [(0, .ref qa900), (1, .int zi35416), (3, .int zi47795), (4, .long wl47796), (6, .int zi48608), (7, .int zi48517)] → PW G cy K ln Ls A hp35417 H → va_S A s.heap H locs → W p l e ({ frames := 2, cells := 0, slots := 0, locals := 49 } : Room) s m ([.ref qa900] : List Value).toArray below meth c H locs 0 0 Q (F0 m 173 ls []) := by
                                      intro zi48608 H locs ls bd48609 hl hw hS
                                      obtain ⟨zi48611, ea48612⟩ : ∃ z : Int32, z = zi48517 + 1 := ⟨_, rfl⟩
                                      have bd48613 : (1 : Int) ≤ zi48611.toInt ∧ zi48611.toInt ≤ 18 := b_iadd ea48612 bd48592 bc_1 (by decide) (by decide) (by decide) (by decide)
                                      have qe48614 : zi48611.toInt = (zi48517 : Int32).toInt + (1 : Int32).toInt := e_iadd ea48612 bd48592 bc_1 (by decide) (by decide)
                                      have qe48615 : zi48611.toInt = zi48517.toInt + 1 := by have ha : (1 : Int32).toInt = 1 := (by decide); rw [ha] at qe48614; exact qe48614
                                      refine lv_iinc (v := zi48611) (lv' := [(7, .int zi48611), (0, .ref qa900), (1, .int zi35416), (3, .int zi47795), (4, .long wl47796), (6, .int zi48608)]) hx hb dX12_cut_173 hl (k := 5) rfl ea48612.symm (by decide) rfl (fun ls hl => ?_)
                                      refine lv_goto (tgt := 146) hx hb dX12_cut_176 (by decide) ?_
                                      exact ih48587 zi48608 zi48611 _ _ ls (by have := hm48589; have := qe48615; omega) (b_wid2 bd48609 (by decide) (by decide)) (b_wid2 bd48613 (by decide) (by decide)) (lv_sub hl [1, 2, 3, 4, 5, 0] rfl) hw hS
                                    refine lv_if_ne (tgt := 173) hx hb dX12_cut_163 (by decide) (fun cn48600 => ?_) (fun cn48600 => ?_)
                                    · skip
                                      have tf48616 : (zi48598 : Int32).toInt ≠ (0 : Int32).toInt := fun e => cn48600 (Int32.toInt_inj.mp e)
                                      have := toi bc_0
                                      exact jn48610 zi48516 _ _ ls (b_wid2 bd48518 (by decide) (by decide)) (lv_sub hl [0, 1, 2, 3, 4, 5] rfl) hw hS
                                    · skip
                                      have bd48617 : (0 : Int) ≤ zi48598.toInt ∧ zi48598.toInt ≤ 0 := r_eq_x cn48600 (b_all zi48598) bc_0 (by decide) (by decide)
                                      refine lv_bipush (v := 20) hx hb dX12_cut_166 (by decide) ?_
                                      refine lv_iload hx hb dX12_cut_168 (lv_at hl 5 rfl) ?_
                                      refine lv_iadd hx hb dX12_cut_170 (lv_topi (fun zi48618 ea48619 => ?_))
                                      have bd48620 : (20 : Int) ≤ zi48618.toInt ∧ zi48618.toInt ≤ 37 := b_iadd ea48619 bc_20 bd48592 (by decide) (by decide) (by decide) (by decide)
                                      have qe48621 : zi48618.toInt = (20 : Int32).toInt + (zi48517 : Int32).toInt := e_iadd ea48619 bc_20 bd48592 (by decide) (by decide)
                                      have qe48622 : zi48618.toInt = 20 + zi48517.toInt := by have ha : (20 : Int32).toInt = 20 := (by decide); rw [ha] at qe48621; exact qe48621
                                      refine lv_istore (lv' := [(6, .int zi48618), (0, .ref qa900), (1, .int zi35416), (3, .int zi47795), (4, .long wl47796), (7, .int zi48517)]) hx hb dX12_cut_171 hl (by decide) rfl (fun ls hl => ?_)
                                      exact jn48610 zi48618 _ _ ls (b_wid2 bd48620 (by decide) (by decide)) (lv_sub hl [1, 2, 3, 4, 0, 5] rfl) hw hS
                              exact lp48588 _ zi48003 0 _ _ ls (lp_in _) (b_wid2 bd48004 (by decide) (by decide)) (b_wid2 bc_0 (by decide) (by decide)) (lv_sub hl [2, 3, 4, 5, 1, 0] rfl) hw hS
                          refine lv_icmp_le (tgt := 134) hx hb dX12_cut_127 (by decide) (fun cn48000 => ?_) (fun cn48000 => ?_)
                          · skip
                            have bd48623 : (0 : Int) ≤ zi47795.toInt ∧ zi47795.toInt ≤ 8 := r_le_x cn48000 bd47797 bc_8 (by decide) (by decide)
                            refine lv_iconst (v := 1) hx hb dX12_cut_134 (by decide) ?_
                            exact jn48005 1 _ _ ls (b_wid2 bc_1 (by decide) (by decide)) (lv_sub hl [0, 1, 2, 3] rfl) hw hS
                          · skip
                            have bd48624 : (9 : Int) ≤ zi47795.toInt ∧ zi47795.toInt ≤ 2000 := r_lt_y (Int32.not_le.mp cn48000) bc_8 bd47797 (by decide) (by decide)
                            refine lv_iconst (v := 3) hx hb dX12_cut_130 (by decide) ?_
                            refine lv_goto (tgt := 135) hx hb dX12_cut_131 (by decide) ?_
                            exact jn48005 3 _ _ ls (b_wid2 bc_3 (by decide) (by decide)) (lv_sub hl [0, 1, 2, 3] rfl) hw hS
                        · skip
                          subst cn47952
                          have bd48625 : (97 : Int) ≤ zi47942.toInt ∧ zi47942.toInt ≤ 122 := b_meet bd47943 (hc47951 rfl) (by decide) (by decide)
                          have bd48626 : (0 : Int) ≤ zi47934.toInt ∧ zi47934.toInt ≤ 1999 := b_meet bd47936 (hi47944 (by have := bd48625; omega)) (by decide) (by decide)
                          have bd48627 : (0 : Int) ≤ zi47795.toInt ∧ zi47795.toInt ≤ 1999 := (by have := qe47937; have := bd48626; have := bd44283; have := bd47797; omega)
                          refine lv_if_eq (tgt := 124) hx hb dX12_cut_95 (by decide) (fun c => absurd c (d_ne bc_1 bc_0 (by decide))) (fun _ => ?_)
                          refine lv_iload_n hx hb dX12_cut_98 rfl (lv_at hl 2 rfl) ?_
                          refine lv_bipush (v := 8) hx hb dX12_cut_99 (by decide) ?_
                          have jn48648 : ∀ (wl48647 : Int64) (H : Heap) (locs : List Loc) (ls : Array Slot), lv_has ls 8 [(0, .ref qa900), (1, .int zi35416), (3, .int zi47795), (4, .long wl48647)] → PW G cy K ln Ls A hp35417 H → va_S A s.heap H locs → W p l e ({ frames := 2, cells := 0, slots := 0, locals := 49 } : Room) s m ([.ref qa900] : List Value).toArray below meth c H locs 0 0 Q (F0 m 118 ls []) := by
                            intro wl48647 H locs ls hl hw hS
                            obtain ⟨zi48649, ea48650⟩ : ∃ z : Int32, z = zi47795 + 1 := ⟨_, rfl⟩
                            have bd48651 : (1 : Int) ≤ zi48649.toInt ∧ zi48649.toInt ≤ 2000 := b_iadd ea48650 bd48627 bc_1 (by decide) (by decide) (by decide) (by decide)
                            have qe48652 : zi48649.toInt = (zi47795 : Int32).toInt + (1 : Int32).toInt := e_iadd ea48650 bd48627 bc_1 (by decide) (by decide)
                            have qe48653 : zi48649.toInt = zi47795.toInt + 1 := by have ha : (1 : Int32).toInt = 1 := (by decide); rw [ha] at qe48652; exact qe48652
                            refine lv_iinc (v := zi48649) (lv' := [(3, .int zi48649), (0, .ref qa900), (1, .int zi35416), (4, .long wl48647)]) hx hb dX12_cut_118 hl (k := 2) rfl ea48650.symm (by decide) rfl (fun ls hl => ?_)
                            refine lv_goto (tgt := 85) hx hb dX12_cut_121 (by decide) ?_
                            exact ih47931 zi48649 wl48647 _ _ ls (by have := hm47933; have := qe48653; omega) (b_wid2 bd48651 (by decide) (by decide)) (lv_sub hl [1, 2, 0, 3] rfl) hw hS
                          refine lv_icmp_ge (tgt := 118) hx hb dX12_cut_101 (by decide) (fun cn48628 => ?_) (fun cn48628 => ?_)
                          · skip
                            have bd48654 : (8 : Int) ≤ zi47795.toInt ∧ zi47795.toInt ≤ 1999 := r_le_y cn48628 bc_8 bd48627 (by decide) (by decide)
                            exact jn48648 wl47796 _ _ ls (lv_sub hl [0, 1, 2, 3] rfl) hw hS
                          · skip
                            have bd48655 : (0 : Int) ≤ zi47795.toInt ∧ zi47795.toInt ≤ 7 := r_lt_x (Int32.not_le.mp cn48628) bd48627 bc_8 (by decide) (by decide)
                            refine lv_lload hx hb dX12_cut_104 (lv_at hl 3 rfl) ?_
                            refine lv_aload_n hx hb dX12_cut_106 rfl (lv_at hl 0 rfl) ?_
                            refine lv_iload_n hx hb dX12_cut_107 rfl (lv_at hl 1 rfl) ?_
                            refine lv_iload_n hx hb dX12_cut_108 rfl (lv_at hl 2 rfl) ?_
                            refine lv_iadd hx hb dX12_cut_109 (lv_topi (fun zi48656 ea48657 => ?_))
                            have bd48658 : (0 : Int) ≤ zi48656.toInt ∧ zi48656.toInt ≤ 2006 := b_iadd ea48657 bd44283 bd48655 (by decide) (by decide) (by decide) (by decide)
                            have qe48659 : zi48656.toInt = zi35416.toInt + zi47795.toInt := e_iadd ea48657 bd44283 bd48655 (by decide) (by decide)
                            refine kq_i hw hS hA (va_runV (As := [.int zi48656]) (rest := [.long wl47796]) ⟨hx, hb, hml, hown, hT⟩ (cX12_byteAt_0 l G cy ev K ln Ls hW _ hp35417 ok35419 qa900 zi48656 kd900 (b_wid2 bd48658 (by decide) (by decide))) (cwV 1 hT (good_V tb_1605 tb_1602 tb_1604 tb_49 tb_122) rfl rfl rfl (by decide +kernel) ⟨Nat.le_of_ble_eq_true rfl, Nat.le_of_ble_eq_true rfl⟩) (pool_preV (ci := 12) hK hE hS hA hw hW kd900 (by decide) rfl) rfl rfl hl.1 rfl (lv_room (Nat.le_of_ble_eq_true rfl)) dX12_cut_110 ⟨Nat.le_of_ble_eq_true rfl, Nat.le_of_ble_eq_true rfl⟩) (fun zi48664 hp48660 H locs hq48663 hw hS => ?_)
                            obtain ⟨ok48661, F48662, bd48665, hi48666⟩ := hq48663
                            obtain rfl : hp35417 = hp48660 := (Fr.nil F48662).symm
                            have hw : PW G cy K ln Ls A hp35417 H := hw
                            refine kq_l hw hS hA (va_runS (As := [.long wl47796, .int zi48664]) (rest := []) ⟨hx, hb, hml, hown, hT⟩ (cX12_appends_0 l G cy ev K ln Ls hW _ hp35417 ok35419 wl47796 zi48664) (va_cwS 2 hT (good_S tb_1373 tb_1371 tb_1372 tb_122) rfl rfl rfl (by decide +kernel) ⟨Nat.le_of_ble_eq_true rfl, Nat.le_of_ble_eq_true rfl⟩) (PB2.preS hK hE hS hA hw) rfl rfl hl.1 rfl (lv_room (Nat.le_of_ble_eq_true rfl)) dX12_cut_113 ⟨Nat.le_of_ble_eq_true rfl, Nat.le_of_ble_eq_true rfl⟩) (fun wl48671 hp48667 H locs hq48670 hw hS => ?_)
                            obtain ⟨ok48668, F48669⟩ := hq48670
                            obtain rfl : hp35417 = hp48667 := (Fr.nil F48669).symm
                            have hw : PW G cy K ln Ls A hp35417 H := hw
                            refine lv_lstore (lv' := [(4, .long wl48671), (0, .ref qa900), (1, .int zi35416), (3, .int zi47795)]) hx hb dX12_cut_116 hl (by decide) rfl (fun ls hl => ?_)
                            exact jn48648 wl48671 _ _ ls (lv_sub hl [1, 2, 3, 0] rfl) hw hS
                    exact lp47932 _ 0 0 _ _ ls (lp_in _) (b_wid2 bc_0 (by decide) (by decide)) (lv_sub hl [3, 4, 1, 0] rfl) hw hS
                · skip
                  have bd48672 : (32 : Int) ≤ zi44275.toInt ∧ zi44275.toInt ≤ 32 := r_eq_x cn46510 bd44276 bc_32 (by decide) (by decide)
                  obtain ⟨zi48673, ea48674⟩ : ∃ z : Int32, z = zi35416 + 1 := ⟨_, rfl⟩
                  have bd48675 : (1 : Int) ≤ zi48673.toInt ∧ zi48673.toInt ≤ 2000 := b_iadd ea48674 bd44283 bc_1 (by decide) (by decide) (by decide) (by decide)
                  have qe48676 : zi48673.toInt = (zi35416 : Int32).toInt + (1 : Int32).toInt := e_iadd ea48674 bd44283 bc_1 (by decide) (by decide)
                  have qe48677 : zi48673.toInt = zi35416.toInt + 1 := by have ha : (1 : Int32).toInt = 1 := (by decide); rw [ha] at qe48676; exact qe48676
                  refine lv_iinc (v := zi48673) (lv' := [(1, .int zi48673), (2, .int zi44275), (0, .ref qa900)]) hx hb dX12_cut_67 hl (k := 2) rfl ea48674.symm (by decide) rfl (fun ls hl => ?_)
                  refine lv_goto (tgt := 291) hx hb dX12_cut_70 (by decide) ?_
                  exact jn46486 hp35417 zi48673 zi35421 _ _ ls ok35419 (Fr.rf) (b_wid2 bd48675 (by decide) (by decide)) (b_wid2 bd44270 (by decide) (by decide)) eq35420 (by omega) (lv_sub hl [2, 0] rfl) hw hS
        · skip
          have tf48678 : zi44279.toInt ≤ zi35416.toInt := (fa_le _ _).mp (Int32.not_lt.mp cn44281)
          refine lv_aload_n hx hb dX12_cut_31 rfl (lv_at hl 1 rfl) ?_
          refine lv_iconst (v := 0) hx hb dX12_cut_32 (by decide) ?_
          refine lv_aload_n hx hb dX12_cut_33 rfl (lv_at hl 1 rfl) ?_
          refine p_get (ci := 12) (v := .int zi44279) (C := RX12) (T := TX12) (N := 69) hx hb hT iw_X12 hown hK hw hW kd900 (by decide) rfl rfl 4 (by decide) eq44278 (hT _ tb_1378) (fun _ h9 => h9) dX12_cut_34 ?_
          refine lv_iconst (v := 0) hx hb dX12_cut_37 (by decide) ?_
          refine lv_lconst (v := 0) hx hb dX12_cut_38 (by decide) ?_
          refine kq_v hw hS hA (va_runV (As := [.int 0, .int zi44279, .int 0, .long 0]) (rest := []) ⟨hx, hb, hml, hown, hT⟩ (cX12_token_5 l G cy ev K ln Ls hW _ hp35417 ok35419 qa900 0 zi44279 0 0 zi35421 kd900 eq35420 (b_wid2 bd44270 (by decide) (by decide))) (cwV 4 hT (good_V tb_1609 tb_1606 tb_1608 tb_50 tb_122) rfl rfl rfl (by decide +kernel) ⟨Nat.le_of_ble_eq_true rfl, Nat.le_of_ble_eq_true rfl⟩) (pool_preV (ci := 12) hK hE hS hA hw hW kd900 (by decide) rfl) rfl rfl hl.1 rfl (lv_room (Nat.le_of_ble_eq_true rfl)) dX12_cut_39 ⟨Nat.le_of_ble_eq_true rfl, Nat.le_of_ble_eq_true rfl⟩) (fun hp48679 H locs hq48682 hw hS => ?_)
          obtain ⟨ok48680, F48681, ⟨zi48684, eq48685, bd48686⟩, rh48687⟩ := hq48682
          have hw : PW G cy K ln Ls A hp48679 H := hw
          simp only [gi_of eq35420, gi_of eq48685] at rh48687
          rw [hQ]
          exact kz_v hx hb hr hlocks hS hp48679 hw ⟨ok48680, (Fr.tr (Fr.tr (Fr.put (cq := 13010) (Fr.rf) eh2 kd900 (cd_o (by decide)) (by decide)) F35418 (by decide)) F48681 (by decide)), ⟨_, eq48685, b_wid2 bd48686 (by decide) (by decide)⟩⟩ (Nat.le_of_ble_eq_true rfl) (Nat.le_of_ble_eq_true rfl) dX12_cut_42
  exact lp44266 _ hp1 0 0 _ _ ls (lp_in _) ok3 (Fr.rf) (b_wid2 bc_0 (by decide) (by decide)) (b_wid2 bc_0 (by decide) (by decide)) (hp_self eh2) (lv_sub hl [1, 0] rfl) hw hS

set_option maxRecDepth 100000 in
set_option maxHeartbeats 4000000 in
theorem cX12_is_0 (l : Launch) (G : va_G) (cy : Nat → ClassId) (ev : Ew) (K ln : Nat → Nat) (Ls : List Nat) (hW : SW K ln Ls) (sz : Nat) (hp0 : Nat → Nat → Value) (ok0 : Ok K hp0) (qa900 : Nat) (zi901 : Int32) (kd900 : K qa900 = 13) : Met l yX12_is (WS yX12_is cX12_is 2 (some .boolean)) { frames := 0, cells := 0, slots := 0, locals := 0 } (PB2 [.ref qa900, .int zi901] sz G cy ev (va_pl Ls (cellOf cy K ln hp0))) (QBi (S := (Nat → Nat → Value)) (fun (r : Int32) (u : (Nat → Nat → Value)) => Ok K u ∧ Fr [] K hp0 u ∧ ((0 : Int) ≤ r.toInt ∧ r.toInt ≤ 1) ∧ (r = 1 → ∃ z : Int32, u qa900 13 = .int z ∧ ((0 : Int) ≤ z.toInt ∧ z.toInt ≤ 0)) ∧ (r = 1 → (ge u qa900 5 11) = (zi901 : Int32).toInt) ∧ (r = 1 → (gi u qa900 13) = 0) ∧ (r = 0 → (gi u qa900 13) ≠ 0 ∨ (ge u qa900 5 11) ≠ (zi901 : Int32).toInt)) G (fun u => va_pl Ls (cellOf cy K ln u)) (va_A (va_pl Ls (cellOf cy K ln hp0)) sz)) 0 0 (va_A (va_pl Ls (cellOf cy K ln hp0)) sz) := by
  refine met_of2 (y := yX12_is) (L := 2) (av := [.ref qa900, .int zi901]) (Qc := fun A => QBi (S := (Nat → Nat → Value)) (fun (r : Int32) (u : (Nat → Nat → Value)) => Ok K u ∧ Fr [] K hp0 u ∧ ((0 : Int) ≤ r.toInt ∧ r.toInt ≤ 1) ∧ (r = 1 → ∃ z : Int32, u qa900 13 = .int z ∧ ((0 : Int) ≤ z.toInt ∧ z.toInt ≤ 0)) ∧ (r = 1 → (ge u qa900 5 11) = (zi901 : Int32).toInt) ∧ (r = 1 → (gi u qa900 13) = 0) ∧ (r = 0 → (gi u qa900 13) ≠ 0 ∨ (ge u qa900 5 11) ≠ (zi901 : Int32).toInt)) G (fun u => va_pl Ls (cellOf cy K ln u)) A) (plainFor_of_name (by decide)) (Nat.le_of_ble_eq_true rfl) ?_
  intro p e s m below meth c hsz hx hb hr hml hown hT hlocks hin hK A hA hE hw hS ls hl
  have hw : PW G cy K ln Ls A hp0 s.heap := hw
  have hown : s.vm.findClass "LieClockModel" = some m.cls := hown
  have hl : lv_has ls 2 [(0, .ref qa900), (1, .int zi901)] := hl
  obtain ⟨Q, hQ⟩ : ∃ Q : State → Prop, Q = MQ below (QBi (S := (Nat → Nat → Value)) (fun (r : Int32) (u : (Nat → Nat → Value)) => Ok K u ∧ Fr [] K hp0 u ∧ ((0 : Int) ≤ r.toInt ∧ r.toInt ≤ 1) ∧ (r = 1 → ∃ z : Int32, u qa900 13 = .int z ∧ ((0 : Int) ≤ z.toInt ∧ z.toInt ≤ 0)) ∧ (r = 1 → (ge u qa900 5 11) = (zi901 : Int32).toInt) ∧ (r = 1 → (gi u qa900 13) = 0) ∧ (r = 0 → (gi u qa900 13) ≠ 0 ∨ (ge u qa900 5 11) ≠ (zi901 : Int32).toInt)) G (fun u => va_pl Ls (cellOf cy K ln u)) A) ([.ref qa900, .int zi901] : List Value).toArray s 0 0 A := ⟨_, rfl⟩
  rw [← hQ]
  obtain ⟨zi2, eq1, bd3⟩ := rd_13013 ok0 kd900
  obtain ⟨qa5, eq4, kd6⟩ := rd_13005 ok0 kd900
  obtain ⟨zi8, eq7, bd9⟩ := rd_13011 ok0 kd900
  obtain ⟨zi11, eq10⟩ := rd_62000 ok0 kd6 ((zi8 : Int32).toNatClampNeg)
  refine lv_aload_n hx hb dX12_is_0 rfl (lv_at hl 0 rfl) ?_
  refine p_get (ci := 12) (v := .int zi2) (C := RX12) (T := TX12) (N := 69) hx hb hT iw_X12 hown hK hw hW kd900 (by decide) rfl rfl 13 (by decide) eq1 (hT _ tb_1387) (fun _ h9 => h9) dX12_is_1 ?_
  refine lv_if_ne (tgt := 24) hx hb dX12_is_4 (by decide) (fun cn12 => ?_) (fun cn12 => ?_)
  · skip
    have tf13 : (zi2 : Int32).toInt ≠ (0 : Int32).toInt := fun e => cn12 (Int32.toInt_inj.mp e)
    have := toi bc_0
    have bd14 : (1 : Int) ≤ zi2.toInt ∧ zi2.toInt ≤ 2 := r_ne_lo cn12 bd3 (toi bc_0) (by decide) (by decide)
    refine lv_iconst (v := 0) hx hb dX12_is_24 (by decide) ?_
    rw [hQ]
    exact kz_i hx hb hr hlocks hS (nz_n bc_0 (by decide) (by decide)) hp0 hw ⟨ok0, (Fr.rf), (b_wid2 bc_0 (by decide) (by decide)), (fun h => absurd h (by decide)), (fun h => absurd h (by decide)), (fun h => absurd h (by decide)), (fun _ => by simp only [ge_of eq4 eq7 eq10, gi_of eq1]; omega)⟩ (Nat.le_of_ble_eq_true rfl) (Nat.le_of_ble_eq_true rfl) dX12_is_25
  · skip
    have bd15 : (0 : Int) ≤ zi2.toInt ∧ zi2.toInt ≤ 0 := r_eq_x cn12 bd3 bc_0 (by decide) (by decide)
    refine lv_aload_n hx hb dX12_is_7 rfl (lv_at hl 0 rfl) ?_
    refine p_get (ci := 12) (v := .ref qa5) (C := RX12) (T := TX12) (N := 69) hx hb hT iw_X12 hown hK hw hW kd900 (by decide) rfl rfl 5 (by decide) eq4 (hT _ tb_1379) (fun _ h9 => h9) dX12_is_8 ?_
    refine lv_aload_n hx hb dX12_is_11 rfl (lv_at hl 0 rfl) ?_
    refine p_get (ci := 12) (v := .int zi8) (C := RX12) (T := TX12) (N := 69) hx hb hT iw_X12 hown hK hw hW kd900 (by decide) rfl rfl 11 (by decide) eq7 (hT _ tb_1385) (fun _ h9 => h9) dX12_is_12 ?_
    refine p_iald (v := zi11) hx hb hK hw hW kd6 (by decide) rfl (hW.len kd6 (n := 403) rfl (by decide)) (vp_b bd9 (by decide) (by decide)) eq10 dX12_is_15 ?_
    refine lv_iload_n hx hb dX12_is_16 rfl (lv_at hl 1 rfl) ?_
    refine lv_icmp_ne (tgt := 24) hx hb dX12_is_17 (by decide) (fun cn16 => ?_) (fun cn16 => ?_)
    · skip
      have tf17 : (zi11 : Int32).toInt ≠ (zi901 : Int32).toInt := fun e => cn16 (Int32.toInt_inj.mp e)
      refine lv_iconst (v := 0) hx hb dX12_is_24 (by decide) ?_
      rw [hQ]
      exact kz_i hx hb hr hlocks hS (nz_n bc_0 (by decide) (by decide)) hp0 hw ⟨ok0, (Fr.rf), (b_wid2 bc_0 (by decide) (by decide)), (fun h => absurd h (by decide)), (fun h => absurd h (by decide)), (fun h => absurd h (by decide)), (fun _ => by simp only [ge_of eq4 eq7 eq10, gi_of eq1]; omega)⟩ (Nat.le_of_ble_eq_true rfl) (Nat.le_of_ble_eq_true rfl) dX12_is_25
    · skip
      have tf18 : zi11.toInt = zi901.toInt := congrArg Int32.toInt cn16
      refine lv_iconst (v := 1) hx hb dX12_is_20 (by decide) ?_
      refine lv_goto (tgt := 25) hx hb dX12_is_21 (by decide) ?_
      rw [hQ]
      exact kz_i hx hb hr hlocks hS (nz_n bc_1 (by decide) (by decide)) hp0 hw ⟨ok0, (Fr.rf), (b_wid2 bc_1 (by decide) (by decide)), (fun _ => ⟨_, eq1, b_wid2 bd15 (by decide) (by decide)⟩), (fun _ => by simp only [ge_of eq4 eq7 eq10]; omega), (fun _ => by simp only [gi_of eq1]; omega), (fun h => absurd h (by decide))⟩ (Nat.le_of_ble_eq_true rfl) (Nat.le_of_ble_eq_true rfl) dX12_is_25
