set_option maxRecDepth 100000 in
set_option maxHeartbeats 4000000 in
theorem cX12_token_2 (l : Launch) (G : va_G) (cy : Nat → ClassId) (ev : Ew) (K ln : Nat → Nat) (Ls : List Nat) (hW : SW K ln Ls) (sz : Nat) (hp0 : Nat → Nat → Value) (ok0 : Ok K hp0) (qa900 : Nat) (zi901 : Int32) (zi902 : Int32) (zi903 : Int32) (wl904 : Int64) (zi960 : Int32) (kd900 : K qa900 = 13) (eq960 : hp0 qa900 10 = .int zi960) (bd960 : ((0 : Int) ≤ zi960.toInt ∧ zi960.toInt ≤ 2)) : Met l yX12_token (WS yX12_token cX12_token 6 none) { frames := 0, cells := 0, slots := 0, locals := 0 } (PB2 [.ref qa900, .int zi901, .int zi902, .int zi903, .long wl904] sz G cy ev (va_pl Ls (cellOf cy K ln hp0))) (QBv (S := (Nat → Nat → Value)) (fun u : (Nat → Nat → Value) => Ok K u ∧ Fr [13010, 62000, 63000, 64000, 65000] K hp0 u ∧ (∃ z : Int32, u qa900 10 = .int z ∧ ((1 : Int) ≤ z.toInt ∧ z.toInt ≤ 3)) ∧ ((gi u qa900 10) = (gi hp0 qa900 10) + 1)) G (fun u => va_pl Ls (cellOf cy K ln u)) (va_A (va_pl Ls (cellOf cy K ln hp0)) sz)) 0 0 (va_A (va_pl Ls (cellOf cy K ln hp0)) sz) := by
  refine met_of2 (y := yX12_token) (L := 6) (av := [.ref qa900, .int zi901, .int zi902, .int zi903, .long wl904]) (Qc := fun A => QBv (S := (Nat → Nat → Value)) (fun u : (Nat → Nat → Value) => Ok K u ∧ Fr [13010, 62000, 63000, 64000, 65000] K hp0 u ∧ (∃ z : Int32, u qa900 10 = .int z ∧ ((1 : Int) ≤ z.toInt ∧ z.toInt ≤ 3)) ∧ ((gi u qa900 10) = (gi hp0 qa900 10) + 1)) G (fun u => va_pl Ls (cellOf cy K ln u)) A) (plainFor_of_name (by decide)) (Nat.le_of_ble_eq_true rfl) ?_
  intro p e s m below meth c hsz hx hb hr hml hown hT hlocks hin hK A hA hE hw hS ls hl
  have hw : PW G cy K ln Ls A hp0 s.heap := hw
  have hown : s.vm.findClass "LieClockModel" = some m.cls := hown
  have hl : lv_has ls 6 [(0, .ref qa900), (1, .int zi901), (2, .int zi902), (3, .int zi903), (4, .long wl904)] := hl
  obtain ⟨Q, hQ⟩ : ∃ Q : State → Prop, Q = MQ below (QBv (S := (Nat → Nat → Value)) (fun u : (Nat → Nat → Value) => Ok K u ∧ Fr [13010, 62000, 63000, 64000, 65000] K hp0 u ∧ (∃ z : Int32, u qa900 10 = .int z ∧ ((1 : Int) ≤ z.toInt ∧ z.toInt ≤ 3)) ∧ ((gi u qa900 10) = (gi hp0 qa900 10) + 1)) G (fun u => va_pl Ls (cellOf cy K ln u)) A) ([.ref qa900, .int zi901, .int zi902, .int zi903, .long wl904] : List Value).toArray s 0 0 A := ⟨_, rfl⟩
  rw [← hQ]
  refine lv_aload_n hx hb dX12_token_0 rfl (lv_at hl 0 rfl) ?_
  obtain ⟨qa2, eq1, kd3⟩ := rd_13005 ok0 kd900
  refine p_get (ci := 12) (v := .ref qa2) (C := RX12) (T := TX12) (N := 69) hx hb hT iw_X12 hown hK hw hW kd900 (by decide) rfl rfl 5 (by decide) eq1 (hT _ tb_1379) (fun _ h9 => h9) dX12_token_1 ?_
  refine lv_aload_n hx hb dX12_token_4 rfl (lv_at hl 0 rfl) ?_
  refine p_get (ci := 12) (v := .int zi960) (C := RX12) (T := TX12) (N := 69) hx hb hT iw_X12 hown hK hw hW kd900 (by decide) rfl rfl 10 (by decide) eq960 (hT _ tb_1384) (fun _ h9 => h9) dX12_token_5 ?_
  refine lv_iload_n hx hb dX12_token_8 rfl (lv_at hl 1 rfl) ?_
  refine p_iast (x := zi901) hx hb hK hw hS hW kd3 (by decide) rfl (hW.len kd3 (n := 403) rfl (by decide)) (vp_b bd960 (by decide) (by decide)) dX12_token_9 (fun hp4 eh5 H locs hw hS => ?_)
  have ok6 := wr_62000 ok0 kd3 eh5
  refine lv_aload_n hx hb dX12_token_10 rfl (lv_at hl 0 rfl) ?_
  obtain ⟨qa8, eq7, kd9⟩ := rd_13006 ok6 kd900
  refine p_get (ci := 12) (v := .ref qa8) (C := RX12) (T := TX12) (N := 69) hx hb hT iw_X12 hown hK hw hW kd900 (by decide) rfl rfl 6 (by decide) eq7 (hT _ tb_1380) (fun _ h9 => h9) dX12_token_11 ?_
  refine lv_aload_n hx hb dX12_token_14 rfl (lv_at hl 0 rfl) ?_
  have eq10 : hp4 qa900 10 = .int zi960 := Eq.trans (up_at eh5 (Or.inl (kd_ne kd900 kd3 (by decide)))) eq960
  refine p_get (ci := 12) (v := .int zi960) (C := RX12) (T := TX12) (N := 69) hx hb hT iw_X12 hown hK hw hW kd900 (by decide) rfl rfl 10 (by decide) eq10 (hT _ tb_1384) (fun _ h9 => h9) dX12_token_15 ?_
  refine lv_iload_n hx hb dX12_token_18 rfl (lv_at hl 2 rfl) ?_
  refine p_iast (x := zi902) hx hb hK hw hS hW kd9 (by decide) rfl (hW.len kd9 (n := 403) rfl (by decide)) (vp_b bd960 (by decide) (by decide)) dX12_token_19 (fun hp11 eh12 H locs hw hS => ?_)
  have ok13 := wr_63000 ok6 kd9 eh12
  refine lv_aload_n hx hb dX12_token_20 rfl (lv_at hl 0 rfl) ?_
  obtain ⟨qa15, eq14, kd16⟩ := rd_13007 ok13 kd900
  refine p_get (ci := 12) (v := .ref qa15) (C := RX12) (T := TX12) (N := 69) hx hb hT iw_X12 hown hK hw hW kd900 (by decide) rfl rfl 7 (by decide) eq14 (hT _ tb_1381) (fun _ h9 => h9) dX12_token_21 ?_
  refine lv_aload_n hx hb dX12_token_24 rfl (lv_at hl 0 rfl) ?_
  have eq17 : hp11 qa900 10 = .int zi960 := Eq.trans (up_at eh12 (Or.inl (kd_ne kd900 kd9 (by decide)))) eq10
  refine p_get (ci := 12) (v := .int zi960) (C := RX12) (T := TX12) (N := 69) hx hb hT iw_X12 hown hK hw hW kd900 (by decide) rfl rfl 10 (by decide) eq17 (hT _ tb_1384) (fun _ h9 => h9) dX12_token_25 ?_
  refine lv_iload_n hx hb dX12_token_28 rfl (lv_at hl 3 rfl) ?_
  refine p_iast (x := zi903) hx hb hK hw hS hW kd16 (by decide) rfl (hW.len kd16 (n := 403) rfl (by decide)) (vp_b bd960 (by decide) (by decide)) dX12_token_29 (fun hp18 eh19 H locs hw hS => ?_)
  have ok20 := wr_64000 ok13 kd16 eh19
  refine lv_aload_n hx hb dX12_token_30 rfl (lv_at hl 0 rfl) ?_
  obtain ⟨qa22, eq21, kd23⟩ := rd_13008 ok20 kd900
  refine p_get (ci := 12) (v := .ref qa22) (C := RX12) (T := TX12) (N := 69) hx hb hT iw_X12 hown hK hw hW kd900 (by decide) rfl rfl 8 (by decide) eq21 (hT _ tb_1382) (fun _ h9 => h9) dX12_token_31 ?_
  refine lv_aload_n hx hb dX12_token_34 rfl (lv_at hl 0 rfl) ?_
  have eq24 : hp18 qa900 10 = .int zi960 := Eq.trans (up_at eh19 (Or.inl (kd_ne kd900 kd16 (by decide)))) eq17
  refine p_get (ci := 12) (v := .int zi960) (C := RX12) (T := TX12) (N := 69) hx hb hT iw_X12 hown hK hw hW kd900 (by decide) rfl rfl 10 (by decide) eq24 (hT _ tb_1384) (fun _ h9 => h9) dX12_token_35 ?_
  refine lv_lload hx hb dX12_token_38 (lv_at hl 4 rfl) ?_
  refine p_last (x := wl904) hx hb hK hw hS hW kd23 (by decide) rfl (hW.len kd23 (n := 403) rfl (by decide)) (vp_b bd960 (by decide) (by decide)) dX12_token_40 (fun hp25 eh26 H locs hw hS => ?_)
  have ok27 := wr_65000 ok20 kd23 eh26
  refine lv_aload_n hx hb dX12_token_41 rfl (lv_at hl 0 rfl) ?_
  refine lv_dup hx hb dX12_token_42 rfl ?_
  have eq28 : hp25 qa900 10 = .int zi960 := Eq.trans (up_at eh26 (Or.inl (kd_ne kd900 kd23 (by decide)))) eq24
  refine p_get (ci := 12) (v := .int zi960) (C := RX12) (T := TX12) (N := 69) hx hb hT iw_X12 hown hK hw hW kd900 (by decide) rfl rfl 10 (by decide) eq28 (hT _ tb_1384) (fun _ h9 => h9) dX12_token_43 ?_
  refine lv_iconst (v := 1) hx hb dX12_token_46 (by decide) ?_
  refine lv_iadd hx hb dX12_token_47 (lv_topi (fun zi29 ea30 => ?_))
  have bd31 : (1 : Int) ≤ zi29.toInt ∧ zi29.toInt ≤ 3 := b_iadd ea30 bd960 bc_1 (by decide) (by decide) (by decide) (by decide)
  have qe32 : zi29.toInt = (zi960 : Int32).toInt + (1 : Int32).toInt := e_iadd ea30 bd960 bc_1 (by decide) (by decide)
  have qe33 : zi29.toInt = zi960.toInt + 1 := by have ha : (1 : Int32).toInt = 1 := (by decide); rw [ha] at qe32; exact qe32
  refine p_put (ci := 12) (v := .int zi29) (ty := .int) (C := RX12) (T := TX12) (N := 69) hx hb hT iw_X12 tyX12 tyX12_ok nmX12 hown hK hw hS hW kd900 (by decide) rfl rfl 10 (by decide) (hT _ tb_1384) (fun _ h9 => h9) rfl (by decide +kernel) rfl rfl dX12_token_48 (fun hp34 eh35 H locs hw hS => ?_)
  have ok36 := wr_13010 bd31 (by decide) (by decide) ok27 kd900 eh35
  rw [hQ]
  exact kz_v hx hb hr hlocks hS hp34 hw ⟨ok36, (Fr.put (cq := 13010) (Fr.put (cq := 65000) (Fr.put (cq := 64000) (Fr.put (cq := 63000) (Fr.put (cq := 62000) (Fr.rf) eh5 kd3 (cd_a (by decide)) (by decide)) eh12 kd9 (cd_a (by decide)) (by decide)) eh19 kd16 (cd_a (by decide)) (by decide)) eh26 kd23 (cd_a (by decide)) (by decide)) eh35 kd900 (cd_o (by decide)) (by decide)), ⟨_, (hp_self eh35), b_wid2 bd31 (by decide) (by decide)⟩, (by simp only [gi_of (hp_self eh35), gi_of eq960]; omega)⟩ (Nat.le_of_ble_eq_true rfl) (Nat.le_of_ble_eq_true rfl) dX12_token_51

set_option maxRecDepth 100000 in
set_option maxHeartbeats 4000000 in
theorem cX12_sign_2 (l : Launch) (G : va_G) (cy : Nat → ClassId) (ev : Ew) (K ln : Nat → Nat) (Ls : List Nat) (hW : SW K ln Ls) (sz : Nat) (hp0 : Nat → Nat → Value) (ok0 : Ok K hp0) (qa900 : Nat) (zi901 : Int32) (zi902 : Int32) (zi903 : Int32) (zi960 : Int32) (kd900 : K qa900 = 13) (eq960 : hp0 qa900 10 = .int zi960) (bd960 : ((0 : Int) ≤ zi960.toInt ∧ zi960.toInt ≤ 2)) : Met l yX12_sign (WS yX12_sign cX12_sign 5 (some .int)) { frames := 1, cells := 0, slots := 0, locals := 25 } (PB2 [.ref qa900, .int zi901, .int zi902, .int zi903] sz G cy ev (va_pl Ls (cellOf cy K ln hp0))) (QBi (S := (Nat → Nat → Value)) (fun (r : Int32) (u : (Nat → Nat → Value)) => Ok K u ∧ Fr [13010, 62000, 63000, 64000, 65000] K hp0 u ∧ ((1 : Int) ≤ r.toInt ∧ r.toInt ≤ 1) ∧ (∃ z : Int32, u qa900 10 = .int z ∧ ((1 : Int) ≤ z.toInt ∧ z.toInt ≤ 3)) ∧ ((gi u qa900 10) = (gi hp0 qa900 10) + 1)) G (fun u => va_pl Ls (cellOf cy K ln u)) (va_A (va_pl Ls (cellOf cy K ln hp0)) sz)) 0 0 (va_A (va_pl Ls (cellOf cy K ln hp0)) sz) := by
  refine met_of2 (y := yX12_sign) (L := 5) (av := [.ref qa900, .int zi901, .int zi902, .int zi903]) (Qc := fun A => QBi (S := (Nat → Nat → Value)) (fun (r : Int32) (u : (Nat → Nat → Value)) => Ok K u ∧ Fr [13010, 62000, 63000, 64000, 65000] K hp0 u ∧ ((1 : Int) ≤ r.toInt ∧ r.toInt ≤ 1) ∧ (∃ z : Int32, u qa900 10 = .int z ∧ ((1 : Int) ≤ z.toInt ∧ z.toInt ≤ 3)) ∧ ((gi u qa900 10) = (gi hp0 qa900 10) + 1)) G (fun u => va_pl Ls (cellOf cy K ln u)) A) (plainFor_of_name (by decide)) (Nat.le_of_ble_eq_true rfl) ?_
  intro p e s m below meth c hsz hx hb hr hml hown hT hlocks hin hK A hA hE hw hS ls hl
  have hw : PW G cy K ln Ls A hp0 s.heap := hw
  have hown : s.vm.findClass "LieClockModel" = some m.cls := hown
  have hl : lv_has ls 5 [(0, .ref qa900), (1, .int zi901), (2, .int zi902), (3, .int zi903)] := hl
  obtain ⟨Q, hQ⟩ : ∃ Q : State → Prop, Q = MQ below (QBi (S := (Nat → Nat → Value)) (fun (r : Int32) (u : (Nat → Nat → Value)) => Ok K u ∧ Fr [13010, 62000, 63000, 64000, 65000] K hp0 u ∧ ((1 : Int) ≤ r.toInt ∧ r.toInt ≤ 1) ∧ (∃ z : Int32, u qa900 10 = .int z ∧ ((1 : Int) ≤ z.toInt ∧ z.toInt ≤ 3)) ∧ ((gi u qa900 10) = (gi hp0 qa900 10) + 1)) G (fun u => va_pl Ls (cellOf cy K ln u)) A) ([.ref qa900, .int zi901, .int zi902, .int zi903] : List Value).toArray s 0 0 A := ⟨_, rfl⟩
  rw [← hQ]
  refine lv_iload_n hx hb dX12_sign_0 rfl (lv_at hl 2 rfl) ?_
  refine lv_bipush (v := 59) hx hb dX12_sign_1 (by decide) ?_
  have jn15 : ∀ (zi13 : Int32) (H : Heap) (locs : List Loc) (ls : Array Slot), ((3 : Int) ≤ zi13.toInt ∧ zi13.toInt ≤ 7) → lv_has ls 5 [(0, .ref qa900), (1, .int zi901), (2, .int zi902)] → PW G cy K ln Ls A hp0 H → va_S A s.heap H locs → W p l e ({ frames := 1, cells := 0, slots := 0, locals := 25 } : Room) s m ([.ref qa900, .int zi901, .int zi902, .int zi903] : List Value).toArray below meth c H locs 0 0 Q (F0 m 43 ls [.int zi13]) := by
    intro zi13 H locs ls bd14 hl hw hS
    refine lv_istore (lv' := [(4, .int zi13), (0, .ref qa900), (1, .int zi901), (2, .int zi902)]) hx hb dX12_sign_43 hl (by decide) rfl (fun ls hl => ?_)
    refine lv_iload_n hx hb dX12_sign_45 rfl (lv_at hl 3 rfl) ?_
    refine lv_bipush (v := 43) hx hb dX12_sign_46 (by decide) ?_
    have jn21 : ∀ (zi19 : Int32) (H : Heap) (locs : List Loc) (ls : Array Slot), ((3 : Int) ≤ zi19.toInt ∧ zi19.toInt ≤ 8) → lv_has ls 5 [(0, .ref qa900), (1, .int zi901), (2, .int zi902), (4, .int zi19)] → PW G cy K ln Ls A hp0 H → va_S A s.heap H locs → W p l e ({ frames := 1, cells := 0, slots := 0, locals := 25 } : Room) s m ([.ref qa900, .int zi901, .int zi902, .int zi903] : List Value).toArray below meth c H locs 0 0 Q (F0 m 55 ls []) := by
      intro zi19 H locs ls bd20 hl hw hS
      refine lv_iload_n hx hb dX12_sign_55 rfl (lv_at hl 2 rfl) ?_
      refine lv_bipush (v := 45) hx hb dX12_sign_56 (by decide) ?_
      have jn27 : ∀ (zi25 : Int32) (H : Heap) (locs : List Loc) (ls : Array Slot), ((3 : Int) ≤ zi25.toInt ∧ zi25.toInt ≤ 9) → lv_has ls 5 [(0, .ref qa900), (1, .int zi901), (2, .int zi902), (4, .int zi25)] → PW G cy K ln Ls A hp0 H → va_S A s.heap H locs → W p l e ({ frames := 1, cells := 0, slots := 0, locals := 25 } : Room) s m ([.ref qa900, .int zi901, .int zi902, .int zi903] : List Value).toArray below meth c H locs 0 0 Q (F0 m 65 ls []) := by
        intro zi25 H locs ls bd26 hl hw hS
        refine lv_iload_n hx hb dX12_sign_65 rfl (lv_at hl 2 rfl) ?_
        refine lv_bipush (v := 42) hx hb dX12_sign_66 (by decide) ?_
        have jn33 : ∀ (zi31 : Int32) (H : Heap) (locs : List Loc) (ls : Array Slot), ((3 : Int) ≤ zi31.toInt ∧ zi31.toInt ≤ 10) → lv_has ls 5 [(0, .ref qa900), (1, .int zi901), (2, .int zi902), (4, .int zi31)] → PW G cy K ln Ls A hp0 H → va_S A s.heap H locs → W p l e ({ frames := 1, cells := 0, slots := 0, locals := 25 } : Room) s m ([.ref qa900, .int zi901, .int zi902, .int zi903] : List Value).toArray below meth c H locs 0 0 Q (F0 m 75 ls []) := by
          intro zi31 H locs ls bd32 hl hw hS
          refine lv_iload_n hx hb dX12_sign_75 rfl (lv_at hl 2 rfl) ?_
          refine lv_bipush (v := 47) hx hb dX12_sign_76 (by decide) ?_
          have jn39 : ∀ (zi37 : Int32) (H : Heap) (locs : List Loc) (ls : Array Slot), ((3 : Int) ≤ zi37.toInt ∧ zi37.toInt ≤ 15) → lv_has ls 5 [(0, .ref qa900), (1, .int zi901), (4, .int zi37)] → PW G cy K ln Ls A hp0 H → va_S A s.heap H locs → W p l e ({ frames := 1, cells := 0, slots := 0, locals := 25 } : Room) s m ([.ref qa900, .int zi901, .int zi902, .int zi903] : List Value).toArray below meth c H locs 0 0 Q (F0 m 85 ls []) := by
            intro zi37 H locs ls bd38 hl hw hS
            refine lv_aload_n hx hb dX12_sign_85 rfl (lv_at hl 0 rfl) ?_
            refine lv_iload hx hb dX12_sign_86 (lv_at hl 2 rfl) ?_
            refine lv_iload_n hx hb dX12_sign_88 rfl (lv_at hl 1 rfl) ?_
            refine lv_iconst (v := 0) hx hb dX12_sign_89 (by decide) ?_
            refine lv_lconst (v := 0) hx hb dX12_sign_90 (by decide) ?_
            refine kq_v hw hS hA (va_runV (As := [.int zi37, .int zi901, .int 0, .long 0]) (rest := []) ⟨hx, hb, hml, hown, hT⟩ (cX12_token_2 l G cy ev K ln Ls hW _ hp0 ok0 qa900 zi37 zi901 0 0 zi960 kd900 eq960 (b_wid2 bd960 (by decide) (by decide))) (cwV 4 hT (good_V tb_1609 tb_1606 tb_1608 tb_50 tb_122) rfl rfl rfl (by decide +kernel) ⟨Nat.le_of_ble_eq_true rfl, Nat.le_of_ble_eq_true rfl⟩) (pool_preV (ci := 12) hK hE hS hA hw hW kd900 (by decide) rfl) rfl rfl hl.1 rfl (lv_room (Nat.le_of_ble_eq_true rfl)) dX12_sign_91 ⟨Nat.le_of_ble_eq_true rfl, Nat.le_of_ble_eq_true rfl⟩) (fun hp40 H locs hq43 hw hS => ?_)
            obtain ⟨ok41, F42, ⟨zi45, eq46, bd47⟩, rh48⟩ := hq43
            have hw : PW G cy K ln Ls A hp40 H := hw
            simp only [gi_of eq46, gi_of eq960] at rh48
            refine lv_iconst (v := 1) hx hb dX12_sign_94 (by decide) ?_
            rw [hQ]
            exact kz_i hx hb hr hlocks hS rfl hp40 hw ⟨ok41, (Fr.tr (Fr.rf) F42 (by decide)), (b_wid2 bc_1 (by decide) (by decide)), ⟨_, eq46, b_wid2 bd47 (by decide) (by decide)⟩, (by simp only [gi_of eq46, gi_of eq960]; omega)⟩ (Nat.le_of_ble_eq_true rfl) (Nat.le_of_ble_eq_true rfl) dX12_sign_95
          refine lv_icmp_ne (tgt := 85) hx hb dX12_sign_78 (by decide) (fun cn34 => ?_) (fun cn34 => ?_)
          · skip
            have tf49 : (zi902 : Int32).toInt ≠ (47 : Int32).toInt := fun e => cn34 (Int32.toInt_inj.mp e)
            have := toi bc_47
            exact jn39 zi31 _ _ ls (b_wid2 bd32 (by decide) (by decide)) (lv_sub hl [0, 1, 3] rfl) hw hS
          · skip
            have bd50 : (47 : Int) ≤ zi902.toInt ∧ zi902.toInt ≤ 47 := r_eq_x cn34 (b_all zi902) bc_47 (by decide) (by decide)
            refine lv_bipush (v := 15) hx hb dX12_sign_81 (by decide) ?_
            refine lv_istore (lv' := [(4, .int 15), (0, .ref qa900), (1, .int zi901), (2, .int zi902)]) hx hb dX12_sign_83 hl (by decide) rfl (fun ls hl => ?_)
            exact jn39 15 _ _ ls (b_wid2 bc_15 (by decide) (by decide)) (lv_sub hl [1, 2, 0] rfl) hw hS
        refine lv_icmp_ne (tgt := 75) hx hb dX12_sign_68 (by decide) (fun cn28 => ?_) (fun cn28 => ?_)
        · skip
          have tf51 : (zi902 : Int32).toInt ≠ (42 : Int32).toInt := fun e => cn28 (Int32.toInt_inj.mp e)
          have := toi bc_42
          exact jn33 zi25 _ _ ls (b_wid2 bd26 (by decide) (by decide)) (lv_sub hl [0, 1, 2, 3] rfl) hw hS
        · skip
          have bd52 : (42 : Int) ≤ zi902.toInt ∧ zi902.toInt ≤ 42 := r_eq_x cn28 (b_all zi902) bc_42 (by decide) (by decide)
          refine lv_bipush (v := 10) hx hb dX12_sign_71 (by decide) ?_
          refine lv_istore (lv' := [(4, .int 10), (0, .ref qa900), (1, .int zi901), (2, .int zi902)]) hx hb dX12_sign_73 hl (by decide) rfl (fun ls hl => ?_)
          exact jn33 10 _ _ ls (b_wid2 bc_10 (by decide) (by decide)) (lv_sub hl [1, 2, 3, 0] rfl) hw hS
      refine lv_icmp_ne (tgt := 65) hx hb dX12_sign_58 (by decide) (fun cn22 => ?_) (fun cn22 => ?_)
      · skip
        have tf53 : (zi902 : Int32).toInt ≠ (45 : Int32).toInt := fun e => cn22 (Int32.toInt_inj.mp e)
        have := toi bc_45
        exact jn27 zi19 _ _ ls (b_wid2 bd20 (by decide) (by decide)) (lv_sub hl [0, 1, 2, 3] rfl) hw hS
      · skip
        have bd54 : (45 : Int) ≤ zi902.toInt ∧ zi902.toInt ≤ 45 := r_eq_x cn22 (b_all zi902) bc_45 (by decide) (by decide)
        refine lv_bipush (v := 9) hx hb dX12_sign_61 (by decide) ?_
        refine lv_istore (lv' := [(4, .int 9), (0, .ref qa900), (1, .int zi901), (2, .int zi902)]) hx hb dX12_sign_63 hl (by decide) rfl (fun ls hl => ?_)
        exact jn27 9 _ _ ls (b_wid2 bc_9 (by decide) (by decide)) (lv_sub hl [1, 2, 3, 0] rfl) hw hS
    refine lv_icmp_ne (tgt := 55) hx hb dX12_sign_48 (by decide) (fun cn16 => ?_) (fun cn16 => ?_)
    · skip
      have tf55 : (zi902 : Int32).toInt ≠ (43 : Int32).toInt := fun e => cn16 (Int32.toInt_inj.mp e)
      have := toi bc_43
      exact jn21 zi13 _ _ ls (b_wid2 bd14 (by decide) (by decide)) (lv_sub hl [1, 2, 3, 0] rfl) hw hS
    · skip
      have bd56 : (43 : Int) ≤ zi902.toInt ∧ zi902.toInt ≤ 43 := r_eq_x cn16 (b_all zi902) bc_43 (by decide) (by decide)
      refine lv_bipush (v := 8) hx hb dX12_sign_51 (by decide) ?_
      refine lv_istore (lv' := [(4, .int 8), (0, .ref qa900), (1, .int zi901), (2, .int zi902)]) hx hb dX12_sign_53 hl (by decide) rfl (fun ls hl => ?_)
      exact jn21 8 _ _ ls (b_wid2 bc_8 (by decide) (by decide)) (lv_sub hl [1, 2, 3, 0] rfl) hw hS
  refine lv_icmp_ne (tgt := 10) hx hb dX12_sign_3 (by decide) (fun cn1 => ?_) (fun cn1 => ?_)
  · skip
    have tf57 : (zi902 : Int32).toInt ≠ (59 : Int32).toInt := fun e => cn1 (Int32.toInt_inj.mp e)
    have := toi bc_59
    refine lv_iload_n hx hb dX12_sign_10 rfl (lv_at hl 2 rfl) ?_
    refine lv_bipush (v := 61) hx hb dX12_sign_11 (by decide) ?_
    refine lv_icmp_ne (tgt := 20) hx hb dX12_sign_13 (by decide) (fun cn58 => ?_) (fun cn58 => ?_)
    · skip
      have tf59 : (zi902 : Int32).toInt ≠ (61 : Int32).toInt := fun e => cn58 (Int32.toInt_inj.mp e)
      have := toi bc_61
      refine lv_iload_n hx hb dX12_sign_20 rfl (lv_at hl 2 rfl) ?_
      refine lv_bipush (v := 40) hx hb dX12_sign_21 (by decide) ?_
      refine lv_icmp_ne (tgt := 31) hx hb dX12_sign_23 (by decide) (fun cn60 => ?_) (fun cn60 => ?_)
      · skip
        have tf61 : (zi902 : Int32).toInt ≠ (40 : Int32).toInt := fun e => cn60 (Int32.toInt_inj.mp e)
        have := toi bc_40
        refine lv_iload_n hx hb dX12_sign_31 rfl (lv_at hl 2 rfl) ?_
        refine lv_bipush (v := 41) hx hb dX12_sign_32 (by decide) ?_
        refine lv_icmp_ne (tgt := 42) hx hb dX12_sign_34 (by decide) (fun cn62 => ?_) (fun cn62 => ?_)
        · skip
          have tf63 : (zi902 : Int32).toInt ≠ (41 : Int32).toInt := fun e => cn62 (Int32.toInt_inj.mp e)
          have := toi bc_41
          refine lv_iconst (v := 3) hx hb dX12_sign_42 (by decide) ?_
          exact jn15 3 _ _ ls (b_wid2 bc_3 (by decide) (by decide)) (lv_sub hl [0, 1, 2] rfl) hw hS
        · skip
          have bd64 : (41 : Int) ≤ zi902.toInt ∧ zi902.toInt ≤ 41 := r_eq_x cn62 (b_all zi902) bc_41 (by decide) (by decide)
          refine lv_bipush (v := 7) hx hb dX12_sign_37 (by decide) ?_
          refine lv_goto (tgt := 43) hx hb dX12_sign_39 (by decide) ?_
          exact jn15 7 _ _ ls (b_wid2 bc_7 (by decide) (by decide)) (lv_sub hl [0, 1, 2] rfl) hw hS
      · skip
        have bd65 : (40 : Int) ≤ zi902.toInt ∧ zi902.toInt ≤ 40 := r_eq_x cn60 (b_all zi902) bc_40 (by decide) (by decide)
        refine lv_bipush (v := 6) hx hb dX12_sign_26 (by decide) ?_
        refine lv_goto (tgt := 43) hx hb dX12_sign_28 (by decide) ?_
        exact jn15 6 _ _ ls (b_wid2 bc_6 (by decide) (by decide)) (lv_sub hl [0, 1, 2] rfl) hw hS
    · skip
      have bd66 : (61 : Int) ≤ zi902.toInt ∧ zi902.toInt ≤ 61 := r_eq_x cn58 (b_all zi902) bc_61 (by decide) (by decide)
      refine lv_iconst (v := 5) hx hb dX12_sign_16 (by decide) ?_
      refine lv_goto (tgt := 43) hx hb dX12_sign_17 (by decide) ?_
      exact jn15 5 _ _ ls (b_wid2 bc_5 (by decide) (by decide)) (lv_sub hl [0, 1, 2] rfl) hw hS
  · skip
    have bd67 : (59 : Int) ≤ zi902.toInt ∧ zi902.toInt ≤ 59 := r_eq_x cn1 (b_all zi902) bc_59 (by decide) (by decide)
    refine lv_iconst (v := 4) hx hb dX12_sign_6 (by decide) ?_
    refine lv_goto (tgt := 43) hx hb dX12_sign_7 (by decide) ?_
    exact jn15 4 _ _ ls (b_wid2 bc_4 (by decide) (by decide)) (lv_sub hl [0, 1, 2] rfl) hw hS

set_option maxRecDepth 100000 in
set_option maxHeartbeats 4000000 in
theorem cX12_token_3 (l : Launch) (G : va_G) (cy : Nat → ClassId) (ev : Ew) (K ln : Nat → Nat) (Ls : List Nat) (hW : SW K ln Ls) (sz : Nat) (hp0 : Nat → Nat → Value) (ok0 : Ok K hp0) (qa900 : Nat) (zi901 : Int32) (zi902 : Int32) (zi903 : Int32) (wl904 : Int64) (zi960 : Int32) (kd900 : K qa900 = 13) (eq960 : hp0 qa900 10 = .int zi960) (bd960 : ((0 : Int) ≤ zi960.toInt ∧ zi960.toInt ≤ 16)) : Met l yX12_token (WS yX12_token cX12_token 6 none) { frames := 0, cells := 0, slots := 0, locals := 0 } (PB2 [.ref qa900, .int zi901, .int zi902, .int zi903, .long wl904] sz G cy ev (va_pl Ls (cellOf cy K ln hp0))) (QBv (S := (Nat → Nat → Value)) (fun u : (Nat → Nat → Value) => Ok K u ∧ Fr [13010, 62000, 63000, 64000, 65000] K hp0 u ∧ (∃ z : Int32, u qa900 10 = .int z ∧ ((1 : Int) ≤ z.toInt ∧ z.toInt ≤ 17)) ∧ ((gi u qa900 10) = (gi hp0 qa900 10) + 1)) G (fun u => va_pl Ls (cellOf cy K ln u)) (va_A (va_pl Ls (cellOf cy K ln hp0)) sz)) 0 0 (va_A (va_pl Ls (cellOf cy K ln hp0)) sz) := by
  refine met_of2 (y := yX12_token) (L := 6) (av := [.ref qa900, .int zi901, .int zi902, .int zi903, .long wl904]) (Qc := fun A => QBv (S := (Nat → Nat → Value)) (fun u : (Nat → Nat → Value) => Ok K u ∧ Fr [13010, 62000, 63000, 64000, 65000] K hp0 u ∧ (∃ z : Int32, u qa900 10 = .int z ∧ ((1 : Int) ≤ z.toInt ∧ z.toInt ≤ 17)) ∧ ((gi u qa900 10) = (gi hp0 qa900 10) + 1)) G (fun u => va_pl Ls (cellOf cy K ln u)) A) (plainFor_of_name (by decide)) (Nat.le_of_ble_eq_true rfl) ?_
  intro p e s m below meth c hsz hx hb hr hml hown hT hlocks hin hK A hA hE hw hS ls hl
  have hw : PW G cy K ln Ls A hp0 s.heap := hw
  have hown : s.vm.findClass "LieClockModel" = some m.cls := hown
  have hl : lv_has ls 6 [(0, .ref qa900), (1, .int zi901), (2, .int zi902), (3, .int zi903), (4, .long wl904)] := hl
  obtain ⟨Q, hQ⟩ : ∃ Q : State → Prop, Q = MQ below (QBv (S := (Nat → Nat → Value)) (fun u : (Nat → Nat → Value) => Ok K u ∧ Fr [13010, 62000, 63000, 64000, 65000] K hp0 u ∧ (∃ z : Int32, u qa900 10 = .int z ∧ ((1 : Int) ≤ z.toInt ∧ z.toInt ≤ 17)) ∧ ((gi u qa900 10) = (gi hp0 qa900 10) + 1)) G (fun u => va_pl Ls (cellOf cy K ln u)) A) ([.ref qa900, .int zi901, .int zi902, .int zi903, .long wl904] : List Value).toArray s 0 0 A := ⟨_, rfl⟩
  rw [← hQ]
  refine lv_aload_n hx hb dX12_token_0 rfl (lv_at hl 0 rfl) ?_
  obtain ⟨qa2, eq1, kd3⟩ := rd_13005 ok0 kd900
  refine p_get (ci := 12) (v := .ref qa2) (C := RX12) (T := TX12) (N := 69) hx hb hT iw_X12 hown hK hw hW kd900 (by decide) rfl rfl 5 (by decide) eq1 (hT _ tb_1379) (fun _ h9 => h9) dX12_token_1 ?_
  refine lv_aload_n hx hb dX12_token_4 rfl (lv_at hl 0 rfl) ?_
  refine p_get (ci := 12) (v := .int zi960) (C := RX12) (T := TX12) (N := 69) hx hb hT iw_X12 hown hK hw hW kd900 (by decide) rfl rfl 10 (by decide) eq960 (hT _ tb_1384) (fun _ h9 => h9) dX12_token_5 ?_
  refine lv_iload_n hx hb dX12_token_8 rfl (lv_at hl 1 rfl) ?_
  refine p_iast (x := zi901) hx hb hK hw hS hW kd3 (by decide) rfl (hW.len kd3 (n := 403) rfl (by decide)) (vp_b bd960 (by decide) (by decide)) dX12_token_9 (fun hp4 eh5 H locs hw hS => ?_)
  have ok6 := wr_62000 ok0 kd3 eh5
  refine lv_aload_n hx hb dX12_token_10 rfl (lv_at hl 0 rfl) ?_
  obtain ⟨qa8, eq7, kd9⟩ := rd_13006 ok6 kd900
  refine p_get (ci := 12) (v := .ref qa8) (C := RX12) (T := TX12) (N := 69) hx hb hT iw_X12 hown hK hw hW kd900 (by decide) rfl rfl 6 (by decide) eq7 (hT _ tb_1380) (fun _ h9 => h9) dX12_token_11 ?_
  refine lv_aload_n hx hb dX12_token_14 rfl (lv_at hl 0 rfl) ?_
  have eq10 : hp4 qa900 10 = .int zi960 := Eq.trans (up_at eh5 (Or.inl (kd_ne kd900 kd3 (by decide)))) eq960
  refine p_get (ci := 12) (v := .int zi960) (C := RX12) (T := TX12) (N := 69) hx hb hT iw_X12 hown hK hw hW kd900 (by decide) rfl rfl 10 (by decide) eq10 (hT _ tb_1384) (fun _ h9 => h9) dX12_token_15 ?_
  refine lv_iload_n hx hb dX12_token_18 rfl (lv_at hl 2 rfl) ?_
  refine p_iast (x := zi902) hx hb hK hw hS hW kd9 (by decide) rfl (hW.len kd9 (n := 403) rfl (by decide)) (vp_b bd960 (by decide) (by decide)) dX12_token_19 (fun hp11 eh12 H locs hw hS => ?_)
  have ok13 := wr_63000 ok6 kd9 eh12
  refine lv_aload_n hx hb dX12_token_20 rfl (lv_at hl 0 rfl) ?_
  obtain ⟨qa15, eq14, kd16⟩ := rd_13007 ok13 kd900
  refine p_get (ci := 12) (v := .ref qa15) (C := RX12) (T := TX12) (N := 69) hx hb hT iw_X12 hown hK hw hW kd900 (by decide) rfl rfl 7 (by decide) eq14 (hT _ tb_1381) (fun _ h9 => h9) dX12_token_21 ?_
  refine lv_aload_n hx hb dX12_token_24 rfl (lv_at hl 0 rfl) ?_
  have eq17 : hp11 qa900 10 = .int zi960 := Eq.trans (up_at eh12 (Or.inl (kd_ne kd900 kd9 (by decide)))) eq10
  refine p_get (ci := 12) (v := .int zi960) (C := RX12) (T := TX12) (N := 69) hx hb hT iw_X12 hown hK hw hW kd900 (by decide) rfl rfl 10 (by decide) eq17 (hT _ tb_1384) (fun _ h9 => h9) dX12_token_25 ?_
  refine lv_iload_n hx hb dX12_token_28 rfl (lv_at hl 3 rfl) ?_
  refine p_iast (x := zi903) hx hb hK hw hS hW kd16 (by decide) rfl (hW.len kd16 (n := 403) rfl (by decide)) (vp_b bd960 (by decide) (by decide)) dX12_token_29 (fun hp18 eh19 H locs hw hS => ?_)
  have ok20 := wr_64000 ok13 kd16 eh19
  refine lv_aload_n hx hb dX12_token_30 rfl (lv_at hl 0 rfl) ?_
  obtain ⟨qa22, eq21, kd23⟩ := rd_13008 ok20 kd900
  refine p_get (ci := 12) (v := .ref qa22) (C := RX12) (T := TX12) (N := 69) hx hb hT iw_X12 hown hK hw hW kd900 (by decide) rfl rfl 8 (by decide) eq21 (hT _ tb_1382) (fun _ h9 => h9) dX12_token_31 ?_
  refine lv_aload_n hx hb dX12_token_34 rfl (lv_at hl 0 rfl) ?_
  have eq24 : hp18 qa900 10 = .int zi960 := Eq.trans (up_at eh19 (Or.inl (kd_ne kd900 kd16 (by decide)))) eq17
  refine p_get (ci := 12) (v := .int zi960) (C := RX12) (T := TX12) (N := 69) hx hb hT iw_X12 hown hK hw hW kd900 (by decide) rfl rfl 10 (by decide) eq24 (hT _ tb_1384) (fun _ h9 => h9) dX12_token_35 ?_
  refine lv_lload hx hb dX12_token_38 (lv_at hl 4 rfl) ?_
  refine p_last (x := wl904) hx hb hK hw hS hW kd23 (by decide) rfl (hW.len kd23 (n := 403) rfl (by decide)) (vp_b bd960 (by decide) (by decide)) dX12_token_40 (fun hp25 eh26 H locs hw hS => ?_)
  have ok27 := wr_65000 ok20 kd23 eh26
  refine lv_aload_n hx hb dX12_token_41 rfl (lv_at hl 0 rfl) ?_
  refine lv_dup hx hb dX12_token_42 rfl ?_
  have eq28 : hp25 qa900 10 = .int zi960 := Eq.trans (up_at eh26 (Or.inl (kd_ne kd900 kd23 (by decide)))) eq24
  refine p_get (ci := 12) (v := .int zi960) (C := RX12) (T := TX12) (N := 69) hx hb hT iw_X12 hown hK hw hW kd900 (by decide) rfl rfl 10 (by decide) eq28 (hT _ tb_1384) (fun _ h9 => h9) dX12_token_43 ?_
  refine lv_iconst (v := 1) hx hb dX12_token_46 (by decide) ?_
  refine lv_iadd hx hb dX12_token_47 (lv_topi (fun zi29 ea30 => ?_))
  have bd31 : (1 : Int) ≤ zi29.toInt ∧ zi29.toInt ≤ 17 := b_iadd ea30 bd960 bc_1 (by decide) (by decide) (by decide) (by decide)
  have qe32 : zi29.toInt = (zi960 : Int32).toInt + (1 : Int32).toInt := e_iadd ea30 bd960 bc_1 (by decide) (by decide)
  have qe33 : zi29.toInt = zi960.toInt + 1 := by have ha : (1 : Int32).toInt = 1 := (by decide); rw [ha] at qe32; exact qe32
  refine p_put (ci := 12) (v := .int zi29) (ty := .int) (C := RX12) (T := TX12) (N := 69) hx hb hT iw_X12 tyX12 tyX12_ok nmX12 hown hK hw hS hW kd900 (by decide) rfl rfl 10 (by decide) (hT _ tb_1384) (fun _ h9 => h9) rfl (by decide +kernel) rfl rfl dX12_token_48 (fun hp34 eh35 H locs hw hS => ?_)
  have ok36 := wr_13010 bd31 (by decide) (by decide) ok27 kd900 eh35
  rw [hQ]
  exact kz_v hx hb hr hlocks hS hp34 hw ⟨ok36, (Fr.put (cq := 13010) (Fr.put (cq := 65000) (Fr.put (cq := 64000) (Fr.put (cq := 63000) (Fr.put (cq := 62000) (Fr.rf) eh5 kd3 (cd_a (by decide)) (by decide)) eh12 kd9 (cd_a (by decide)) (by decide)) eh19 kd16 (cd_a (by decide)) (by decide)) eh26 kd23 (cd_a (by decide)) (by decide)) eh35 kd900 (cd_o (by decide)) (by decide)), ⟨_, (hp_self eh35), b_wid2 bd31 (by decide) (by decide)⟩, (by simp only [gi_of (hp_self eh35), gi_of eq960]; omega)⟩ (Nat.le_of_ble_eq_true rfl) (Nat.le_of_ble_eq_true rfl) dX12_token_51

set_option maxRecDepth 100000 in
set_option maxHeartbeats 4000000 in
theorem cX12_sign_3 (l : Launch) (G : va_G) (cy : Nat → ClassId) (ev : Ew) (K ln : Nat → Nat) (Ls : List Nat) (hW : SW K ln Ls) (sz : Nat) (hp0 : Nat → Nat → Value) (ok0 : Ok K hp0) (qa900 : Nat) (zi901 : Int32) (zi902 : Int32) (zi903 : Int32) (zi960 : Int32) (kd900 : K qa900 = 13) (eq960 : hp0 qa900 10 = .int zi960) (bd960 : ((0 : Int) ≤ zi960.toInt ∧ zi960.toInt ≤ 16)) : Met l yX12_sign (WS yX12_sign cX12_sign 5 (some .int)) { frames := 1, cells := 0, slots := 0, locals := 25 } (PB2 [.ref qa900, .int zi901, .int zi902, .int zi903] sz G cy ev (va_pl Ls (cellOf cy K ln hp0))) (QBi (S := (Nat → Nat → Value)) (fun (r : Int32) (u : (Nat → Nat → Value)) => Ok K u ∧ Fr [13010, 62000, 63000, 64000, 65000] K hp0 u ∧ ((1 : Int) ≤ r.toInt ∧ r.toInt ≤ 1) ∧ (∃ z : Int32, u qa900 10 = .int z ∧ ((1 : Int) ≤ z.toInt ∧ z.toInt ≤ 17)) ∧ ((gi u qa900 10) = (gi hp0 qa900 10) + 1)) G (fun u => va_pl Ls (cellOf cy K ln u)) (va_A (va_pl Ls (cellOf cy K ln hp0)) sz)) 0 0 (va_A (va_pl Ls (cellOf cy K ln hp0)) sz) := by
  refine met_of2 (y := yX12_sign) (L := 5) (av := [.ref qa900, .int zi901, .int zi902, .int zi903]) (Qc := fun A => QBi (S := (Nat → Nat → Value)) (fun (r : Int32) (u : (Nat → Nat → Value)) => Ok K u ∧ Fr [13010, 62000, 63000, 64000, 65000] K hp0 u ∧ ((1 : Int) ≤ r.toInt ∧ r.toInt ≤ 1) ∧ (∃ z : Int32, u qa900 10 = .int z ∧ ((1 : Int) ≤ z.toInt ∧ z.toInt ≤ 17)) ∧ ((gi u qa900 10) = (gi hp0 qa900 10) + 1)) G (fun u => va_pl Ls (cellOf cy K ln u)) A) (plainFor_of_name (by decide)) (Nat.le_of_ble_eq_true rfl) ?_
  intro p e s m below meth c hsz hx hb hr hml hown hT hlocks hin hK A hA hE hw hS ls hl
  have hw : PW G cy K ln Ls A hp0 s.heap := hw
  have hown : s.vm.findClass "LieClockModel" = some m.cls := hown
  have hl : lv_has ls 5 [(0, .ref qa900), (1, .int zi901), (2, .int zi902), (3, .int zi903)] := hl
  obtain ⟨Q, hQ⟩ : ∃ Q : State → Prop, Q = MQ below (QBi (S := (Nat → Nat → Value)) (fun (r : Int32) (u : (Nat → Nat → Value)) => Ok K u ∧ Fr [13010, 62000, 63000, 64000, 65000] K hp0 u ∧ ((1 : Int) ≤ r.toInt ∧ r.toInt ≤ 1) ∧ (∃ z : Int32, u qa900 10 = .int z ∧ ((1 : Int) ≤ z.toInt ∧ z.toInt ≤ 17)) ∧ ((gi u qa900 10) = (gi hp0 qa900 10) + 1)) G (fun u => va_pl Ls (cellOf cy K ln u)) A) ([.ref qa900, .int zi901, .int zi902, .int zi903] : List Value).toArray s 0 0 A := ⟨_, rfl⟩
  rw [← hQ]
  refine lv_iload_n hx hb dX12_sign_0 rfl (lv_at hl 2 rfl) ?_
  refine lv_bipush (v := 59) hx hb dX12_sign_1 (by decide) ?_
  have jn15 : ∀ (zi13 : Int32) (H : Heap) (locs : List Loc) (ls : Array Slot), ((3 : Int) ≤ zi13.toInt ∧ zi13.toInt ≤ 7) → lv_has ls 5 [(0, .ref qa900), (1, .int zi901), (2, .int zi902)] → PW G cy K ln Ls A hp0 H → va_S A s.heap H locs → W p l e ({ frames := 1, cells := 0, slots := 0, locals := 25 } : Room) s m ([.ref qa900, .int zi901, .int zi902, .int zi903] : List Value).toArray below meth c H locs 0 0 Q (F0 m 43 ls [.int zi13]) := by
    intro zi13 H locs ls bd14 hl hw hS
    refine lv_istore (lv' := [(4, .int zi13), (0, .ref qa900), (1, .int zi901), (2, .int zi902)]) hx hb dX12_sign_43 hl (by decide) rfl (fun ls hl => ?_)
    refine lv_iload_n hx hb dX12_sign_45 rfl (lv_at hl 3 rfl) ?_
    refine lv_bipush (v := 43) hx hb dX12_sign_46 (by decide) ?_
    have jn21 : ∀ (zi19 : Int32) (H : Heap) (locs : List Loc) (ls : Array Slot), ((3 : Int) ≤ zi19.toInt ∧ zi19.toInt ≤ 8) → lv_has ls 5 [(0, .ref qa900), (1, .int zi901), (2, .int zi902), (4, .int zi19)] → PW G cy K ln Ls A hp0 H → va_S A s.heap H locs → W p l e ({ frames := 1, cells := 0, slots := 0, locals := 25 } : Room) s m ([.ref qa900, .int zi901, .int zi902, .int zi903] : List Value).toArray below meth c H locs 0 0 Q (F0 m 55 ls []) := by
      intro zi19 H locs ls bd20 hl hw hS
      refine lv_iload_n hx hb dX12_sign_55 rfl (lv_at hl 2 rfl) ?_
      refine lv_bipush (v := 45) hx hb dX12_sign_56 (by decide) ?_
      have jn27 : ∀ (zi25 : Int32) (H : Heap) (locs : List Loc) (ls : Array Slot), ((3 : Int) ≤ zi25.toInt ∧ zi25.toInt ≤ 9) → lv_has ls 5 [(0, .ref qa900), (1, .int zi901), (2, .int zi902), (4, .int zi25)] → PW G cy K ln Ls A hp0 H → va_S A s.heap H locs → W p l e ({ frames := 1, cells := 0, slots := 0, locals := 25 } : Room) s m ([.ref qa900, .int zi901, .int zi902, .int zi903] : List Value).toArray below meth c H locs 0 0 Q (F0 m 65 ls []) := by
        intro zi25 H locs ls bd26 hl hw hS
        refine lv_iload_n hx hb dX12_sign_65 rfl (lv_at hl 2 rfl) ?_
        refine lv_bipush (v := 42) hx hb dX12_sign_66 (by decide) ?_
        have jn33 : ∀ (zi31 : Int32) (H : Heap) (locs : List Loc) (ls : Array Slot), ((3 : Int) ≤ zi31.toInt ∧ zi31.toInt ≤ 10) → lv_has ls 5 [(0, .ref qa900), (1, .int zi901), (2, .int zi902), (4, .int zi31)] → PW G cy K ln Ls A hp0 H → va_S A s.heap H locs → W p l e ({ frames := 1, cells := 0, slots := 0, locals := 25 } : Room) s m ([.ref qa900, .int zi901, .int zi902, .int zi903] : List Value).toArray below meth c H locs 0 0 Q (F0 m 75 ls []) := by
          intro zi31 H locs ls bd32 hl hw hS
          refine lv_iload_n hx hb dX12_sign_75 rfl (lv_at hl 2 rfl) ?_
          refine lv_bipush (v := 47) hx hb dX12_sign_76 (by decide) ?_
          have jn39 : ∀ (zi37 : Int32) (H : Heap) (locs : List Loc) (ls : Array Slot), ((3 : Int) ≤ zi37.toInt ∧ zi37.toInt ≤ 15) → lv_has ls 5 [(0, .ref qa900), (1, .int zi901), (4, .int zi37)] → PW G cy K ln Ls A hp0 H → va_S A s.heap H locs → W p l e ({ frames := 1, cells := 0, slots := 0, locals := 25 } : Room) s m ([.ref qa900, .int zi901, .int zi902, .int zi903] : List Value).toArray below meth c H locs 0 0 Q (F0 m 85 ls []) := by
            intro zi37 H locs ls bd38 hl hw hS
            refine lv_aload_n hx hb dX12_sign_85 rfl (lv_at hl 0 rfl) ?_
            refine lv_iload hx hb dX12_sign_86 (lv_at hl 2 rfl) ?_
            refine lv_iload_n hx hb dX12_sign_88 rfl (lv_at hl 1 rfl) ?_
            refine lv_iconst (v := 0) hx hb dX12_sign_89 (by decide) ?_
            refine lv_lconst (v := 0) hx hb dX12_sign_90 (by decide) ?_
            refine kq_v hw hS hA (va_runV (As := [.int zi37, .int zi901, .int 0, .long 0]) (rest := []) ⟨hx, hb, hml, hown, hT⟩ (cX12_token_3 l G cy ev K ln Ls hW _ hp0 ok0 qa900 zi37 zi901 0 0 zi960 kd900 eq960 (b_wid2 bd960 (by decide) (by decide))) (cwV 4 hT (good_V tb_1609 tb_1606 tb_1608 tb_50 tb_122) rfl rfl rfl (by decide +kernel) ⟨Nat.le_of_ble_eq_true rfl, Nat.le_of_ble_eq_true rfl⟩) (pool_preV (ci := 12) hK hE hS hA hw hW kd900 (by decide) rfl) rfl rfl hl.1 rfl (lv_room (Nat.le_of_ble_eq_true rfl)) dX12_sign_91 ⟨Nat.le_of_ble_eq_true rfl, Nat.le_of_ble_eq_true rfl⟩) (fun hp40 H locs hq43 hw hS => ?_)
            obtain ⟨ok41, F42, ⟨zi45, eq46, bd47⟩, rh48⟩ := hq43
            have hw : PW G cy K ln Ls A hp40 H := hw
            simp only [gi_of eq46, gi_of eq960] at rh48
            refine lv_iconst (v := 1) hx hb dX12_sign_94 (by decide) ?_
            rw [hQ]
            exact kz_i hx hb hr hlocks hS rfl hp40 hw ⟨ok41, (Fr.tr (Fr.rf) F42 (by decide)), (b_wid2 bc_1 (by decide) (by decide)), ⟨_, eq46, b_wid2 bd47 (by decide) (by decide)⟩, (by simp only [gi_of eq46, gi_of eq960]; omega)⟩ (Nat.le_of_ble_eq_true rfl) (Nat.le_of_ble_eq_true rfl) dX12_sign_95
          refine lv_icmp_ne (tgt := 85) hx hb dX12_sign_78 (by decide) (fun cn34 => ?_) (fun cn34 => ?_)
          · skip
            have tf49 : (zi902 : Int32).toInt ≠ (47 : Int32).toInt := fun e => cn34 (Int32.toInt_inj.mp e)
            have := toi bc_47
            exact jn39 zi31 _ _ ls (b_wid2 bd32 (by decide) (by decide)) (lv_sub hl [0, 1, 3] rfl) hw hS
          · skip
            have bd50 : (47 : Int) ≤ zi902.toInt ∧ zi902.toInt ≤ 47 := r_eq_x cn34 (b_all zi902) bc_47 (by decide) (by decide)
            refine lv_bipush (v := 15) hx hb dX12_sign_81 (by decide) ?_
            refine lv_istore (lv' := [(4, .int 15), (0, .ref qa900), (1, .int zi901), (2, .int zi902)]) hx hb dX12_sign_83 hl (by decide) rfl (fun ls hl => ?_)
            exact jn39 15 _ _ ls (b_wid2 bc_15 (by decide) (by decide)) (lv_sub hl [1, 2, 0] rfl) hw hS
        refine lv_icmp_ne (tgt := 75) hx hb dX12_sign_68 (by decide) (fun cn28 => ?_) (fun cn28 => ?_)
        · skip
          have tf51 : (zi902 : Int32).toInt ≠ (42 : Int32).toInt := fun e => cn28 (Int32.toInt_inj.mp e)
          have := toi bc_42
          exact jn33 zi25 _ _ ls (b_wid2 bd26 (by decide) (by decide)) (lv_sub hl [0, 1, 2, 3] rfl) hw hS
        · skip
          have bd52 : (42 : Int) ≤ zi902.toInt ∧ zi902.toInt ≤ 42 := r_eq_x cn28 (b_all zi902) bc_42 (by decide) (by decide)
          refine lv_bipush (v := 10) hx hb dX12_sign_71 (by decide) ?_
          refine lv_istore (lv' := [(4, .int 10), (0, .ref qa900), (1, .int zi901), (2, .int zi902)]) hx hb dX12_sign_73 hl (by decide) rfl (fun ls hl => ?_)
          exact jn33 10 _ _ ls (b_wid2 bc_10 (by decide) (by decide)) (lv_sub hl [1, 2, 3, 0] rfl) hw hS
      refine lv_icmp_ne (tgt := 65) hx hb dX12_sign_58 (by decide) (fun cn22 => ?_) (fun cn22 => ?_)
      · skip
        have tf53 : (zi902 : Int32).toInt ≠ (45 : Int32).toInt := fun e => cn22 (Int32.toInt_inj.mp e)
        have := toi bc_45
        exact jn27 zi19 _ _ ls (b_wid2 bd20 (by decide) (by decide)) (lv_sub hl [0, 1, 2, 3] rfl) hw hS
      · skip
        have bd54 : (45 : Int) ≤ zi902.toInt ∧ zi902.toInt ≤ 45 := r_eq_x cn22 (b_all zi902) bc_45 (by decide) (by decide)
        refine lv_bipush (v := 9) hx hb dX12_sign_61 (by decide) ?_
        refine lv_istore (lv' := [(4, .int 9), (0, .ref qa900), (1, .int zi901), (2, .int zi902)]) hx hb dX12_sign_63 hl (by decide) rfl (fun ls hl => ?_)
        exact jn27 9 _ _ ls (b_wid2 bc_9 (by decide) (by decide)) (lv_sub hl [1, 2, 3, 0] rfl) hw hS
    refine lv_icmp_ne (tgt := 55) hx hb dX12_sign_48 (by decide) (fun cn16 => ?_) (fun cn16 => ?_)
    · skip
      have tf55 : (zi902 : Int32).toInt ≠ (43 : Int32).toInt := fun e => cn16 (Int32.toInt_inj.mp e)
      have := toi bc_43
      exact jn21 zi13 _ _ ls (b_wid2 bd14 (by decide) (by decide)) (lv_sub hl [1, 2, 3, 0] rfl) hw hS
    · skip
      have bd56 : (43 : Int) ≤ zi902.toInt ∧ zi902.toInt ≤ 43 := r_eq_x cn16 (b_all zi902) bc_43 (by decide) (by decide)
      refine lv_bipush (v := 8) hx hb dX12_sign_51 (by decide) ?_
      refine lv_istore (lv' := [(4, .int 8), (0, .ref qa900), (1, .int zi901), (2, .int zi902)]) hx hb dX12_sign_53 hl (by decide) rfl (fun ls hl => ?_)
      exact jn21 8 _ _ ls (b_wid2 bc_8 (by decide) (by decide)) (lv_sub hl [1, 2, 3, 0] rfl) hw hS
  refine lv_icmp_ne (tgt := 10) hx hb dX12_sign_3 (by decide) (fun cn1 => ?_) (fun cn1 => ?_)
  · skip
    have tf57 : (zi902 : Int32).toInt ≠ (59 : Int32).toInt := fun e => cn1 (Int32.toInt_inj.mp e)
    have := toi bc_59
    refine lv_iload_n hx hb dX12_sign_10 rfl (lv_at hl 2 rfl) ?_
    refine lv_bipush (v := 61) hx hb dX12_sign_11 (by decide) ?_
    refine lv_icmp_ne (tgt := 20) hx hb dX12_sign_13 (by decide) (fun cn58 => ?_) (fun cn58 => ?_)
    · skip
      have tf59 : (zi902 : Int32).toInt ≠ (61 : Int32).toInt := fun e => cn58 (Int32.toInt_inj.mp e)
      have := toi bc_61
      refine lv_iload_n hx hb dX12_sign_20 rfl (lv_at hl 2 rfl) ?_
      refine lv_bipush (v := 40) hx hb dX12_sign_21 (by decide) ?_
      refine lv_icmp_ne (tgt := 31) hx hb dX12_sign_23 (by decide) (fun cn60 => ?_) (fun cn60 => ?_)
      · skip
        have tf61 : (zi902 : Int32).toInt ≠ (40 : Int32).toInt := fun e => cn60 (Int32.toInt_inj.mp e)
        have := toi bc_40
        refine lv_iload_n hx hb dX12_sign_31 rfl (lv_at hl 2 rfl) ?_
        refine lv_bipush (v := 41) hx hb dX12_sign_32 (by decide) ?_
        refine lv_icmp_ne (tgt := 42) hx hb dX12_sign_34 (by decide) (fun cn62 => ?_) (fun cn62 => ?_)
        · skip
          have tf63 : (zi902 : Int32).toInt ≠ (41 : Int32).toInt := fun e => cn62 (Int32.toInt_inj.mp e)
          have := toi bc_41
          refine lv_iconst (v := 3) hx hb dX12_sign_42 (by decide) ?_
          exact jn15 3 _ _ ls (b_wid2 bc_3 (by decide) (by decide)) (lv_sub hl [0, 1, 2] rfl) hw hS
        · skip
          have bd64 : (41 : Int) ≤ zi902.toInt ∧ zi902.toInt ≤ 41 := r_eq_x cn62 (b_all zi902) bc_41 (by decide) (by decide)
          refine lv_bipush (v := 7) hx hb dX12_sign_37 (by decide) ?_
          refine lv_goto (tgt := 43) hx hb dX12_sign_39 (by decide) ?_
          exact jn15 7 _ _ ls (b_wid2 bc_7 (by decide) (by decide)) (lv_sub hl [0, 1, 2] rfl) hw hS
      · skip
        have bd65 : (40 : Int) ≤ zi902.toInt ∧ zi902.toInt ≤ 40 := r_eq_x cn60 (b_all zi902) bc_40 (by decide) (by decide)
        refine lv_bipush (v := 6) hx hb dX12_sign_26 (by decide) ?_
        refine lv_goto (tgt := 43) hx hb dX12_sign_28 (by decide) ?_
        exact jn15 6 _ _ ls (b_wid2 bc_6 (by decide) (by decide)) (lv_sub hl [0, 1, 2] rfl) hw hS
    · skip
      have bd66 : (61 : Int) ≤ zi902.toInt ∧ zi902.toInt ≤ 61 := r_eq_x cn58 (b_all zi902) bc_61 (by decide) (by decide)
      refine lv_iconst (v := 5) hx hb dX12_sign_16 (by decide) ?_
      refine lv_goto (tgt := 43) hx hb dX12_sign_17 (by decide) ?_
      exact jn15 5 _ _ ls (b_wid2 bc_5 (by decide) (by decide)) (lv_sub hl [0, 1, 2] rfl) hw hS
  · skip
    have bd67 : (59 : Int) ≤ zi902.toInt ∧ zi902.toInt ≤ 59 := r_eq_x cn1 (b_all zi902) bc_59 (by decide) (by decide)
    refine lv_iconst (v := 4) hx hb dX12_sign_6 (by decide) ?_
    refine lv_goto (tgt := 43) hx hb dX12_sign_7 (by decide) ?_
    exact jn15 4 _ _ ls (b_wid2 bc_4 (by decide) (by decide)) (lv_sub hl [0, 1, 2] rfl) hw hS

set_option maxRecDepth 100000 in
set_option maxHeartbeats 4000000 in
theorem cX12_token_4 (l : Launch) (G : va_G) (cy : Nat → ClassId) (ev : Ew) (K ln : Nat → Nat) (Ls : List Nat) (hW : SW K ln Ls) (sz : Nat) (hp0 : Nat → Nat → Value) (ok0 : Ok K hp0) (qa900 : Nat) (zi901 : Int32) (zi902 : Int32) (zi903 : Int32) (wl904 : Int64) (zi960 : Int32) (kd900 : K qa900 = 13) (eq960 : hp0 qa900 10 = .int zi960) (bd960 : ((0 : Int) ≤ zi960.toInt ∧ zi960.toInt ≤ 64)) : Met l yX12_token (WS yX12_token cX12_token 6 none) { frames := 0, cells := 0, slots := 0, locals := 0 } (PB2 [.ref qa900, .int zi901, .int zi902, .int zi903, .long wl904] sz G cy ev (va_pl Ls (cellOf cy K ln hp0))) (QBv (S := (Nat → Nat → Value)) (fun u : (Nat → Nat → Value) => Ok K u ∧ Fr [13010, 62000, 63000, 64000, 65000] K hp0 u ∧ (∃ z : Int32, u qa900 10 = .int z ∧ ((1 : Int) ≤ z.toInt ∧ z.toInt ≤ 65)) ∧ ((gi u qa900 10) = (gi hp0 qa900 10) + 1)) G (fun u => va_pl Ls (cellOf cy K ln u)) (va_A (va_pl Ls (cellOf cy K ln hp0)) sz)) 0 0 (va_A (va_pl Ls (cellOf cy K ln hp0)) sz) := by
  refine met_of2 (y := yX12_token) (L := 6) (av := [.ref qa900, .int zi901, .int zi902, .int zi903, .long wl904]) (Qc := fun A => QBv (S := (Nat → Nat → Value)) (fun u : (Nat → Nat → Value) => Ok K u ∧ Fr [13010, 62000, 63000, 64000, 65000] K hp0 u ∧ (∃ z : Int32, u qa900 10 = .int z ∧ ((1 : Int) ≤ z.toInt ∧ z.toInt ≤ 65)) ∧ ((gi u qa900 10) = (gi hp0 qa900 10) + 1)) G (fun u => va_pl Ls (cellOf cy K ln u)) A) (plainFor_of_name (by decide)) (Nat.le_of_ble_eq_true rfl) ?_
  intro p e s m below meth c hsz hx hb hr hml hown hT hlocks hin hK A hA hE hw hS ls hl
  have hw : PW G cy K ln Ls A hp0 s.heap := hw
  have hown : s.vm.findClass "LieClockModel" = some m.cls := hown
  have hl : lv_has ls 6 [(0, .ref qa900), (1, .int zi901), (2, .int zi902), (3, .int zi903), (4, .long wl904)] := hl
  obtain ⟨Q, hQ⟩ : ∃ Q : State → Prop, Q = MQ below (QBv (S := (Nat → Nat → Value)) (fun u : (Nat → Nat → Value) => Ok K u ∧ Fr [13010, 62000, 63000, 64000, 65000] K hp0 u ∧ (∃ z : Int32, u qa900 10 = .int z ∧ ((1 : Int) ≤ z.toInt ∧ z.toInt ≤ 65)) ∧ ((gi u qa900 10) = (gi hp0 qa900 10) + 1)) G (fun u => va_pl Ls (cellOf cy K ln u)) A) ([.ref qa900, .int zi901, .int zi902, .int zi903, .long wl904] : List Value).toArray s 0 0 A := ⟨_, rfl⟩
  rw [← hQ]
  refine lv_aload_n hx hb dX12_token_0 rfl (lv_at hl 0 rfl) ?_
  obtain ⟨qa2, eq1, kd3⟩ := rd_13005 ok0 kd900
  refine p_get (ci := 12) (v := .ref qa2) (C := RX12) (T := TX12) (N := 69) hx hb hT iw_X12 hown hK hw hW kd900 (by decide) rfl rfl 5 (by decide) eq1 (hT _ tb_1379) (fun _ h9 => h9) dX12_token_1 ?_
  refine lv_aload_n hx hb dX12_token_4 rfl (lv_at hl 0 rfl) ?_
  refine p_get (ci := 12) (v := .int zi960) (C := RX12) (T := TX12) (N := 69) hx hb hT iw_X12 hown hK hw hW kd900 (by decide) rfl rfl 10 (by decide) eq960 (hT _ tb_1384) (fun _ h9 => h9) dX12_token_5 ?_
  refine lv_iload_n hx hb dX12_token_8 rfl (lv_at hl 1 rfl) ?_
  refine p_iast (x := zi901) hx hb hK hw hS hW kd3 (by decide) rfl (hW.len kd3 (n := 403) rfl (by decide)) (vp_b bd960 (by decide) (by decide)) dX12_token_9 (fun hp4 eh5 H locs hw hS => ?_)
  have ok6 := wr_62000 ok0 kd3 eh5
  refine lv_aload_n hx hb dX12_token_10 rfl (lv_at hl 0 rfl) ?_
  obtain ⟨qa8, eq7, kd9⟩ := rd_13006 ok6 kd900
  refine p_get (ci := 12) (v := .ref qa8) (C := RX12) (T := TX12) (N := 69) hx hb hT iw_X12 hown hK hw hW kd900 (by decide) rfl rfl 6 (by decide) eq7 (hT _ tb_1380) (fun _ h9 => h9) dX12_token_11 ?_
  refine lv_aload_n hx hb dX12_token_14 rfl (lv_at hl 0 rfl) ?_
  have eq10 : hp4 qa900 10 = .int zi960 := Eq.trans (up_at eh5 (Or.inl (kd_ne kd900 kd3 (by decide)))) eq960
  refine p_get (ci := 12) (v := .int zi960) (C := RX12) (T := TX12) (N := 69) hx hb hT iw_X12 hown hK hw hW kd900 (by decide) rfl rfl 10 (by decide) eq10 (hT _ tb_1384) (fun _ h9 => h9) dX12_token_15 ?_
  refine lv_iload_n hx hb dX12_token_18 rfl (lv_at hl 2 rfl) ?_
  refine p_iast (x := zi902) hx hb hK hw hS hW kd9 (by decide) rfl (hW.len kd9 (n := 403) rfl (by decide)) (vp_b bd960 (by decide) (by decide)) dX12_token_19 (fun hp11 eh12 H locs hw hS => ?_)
  have ok13 := wr_63000 ok6 kd9 eh12
  refine lv_aload_n hx hb dX12_token_20 rfl (lv_at hl 0 rfl) ?_
  obtain ⟨qa15, eq14, kd16⟩ := rd_13007 ok13 kd900
  refine p_get (ci := 12) (v := .ref qa15) (C := RX12) (T := TX12) (N := 69) hx hb hT iw_X12 hown hK hw hW kd900 (by decide) rfl rfl 7 (by decide) eq14 (hT _ tb_1381) (fun _ h9 => h9) dX12_token_21 ?_
  refine lv_aload_n hx hb dX12_token_24 rfl (lv_at hl 0 rfl) ?_
  have eq17 : hp11 qa900 10 = .int zi960 := Eq.trans (up_at eh12 (Or.inl (kd_ne kd900 kd9 (by decide)))) eq10
  refine p_get (ci := 12) (v := .int zi960) (C := RX12) (T := TX12) (N := 69) hx hb hT iw_X12 hown hK hw hW kd900 (by decide) rfl rfl 10 (by decide) eq17 (hT _ tb_1384) (fun _ h9 => h9) dX12_token_25 ?_
  refine lv_iload_n hx hb dX12_token_28 rfl (lv_at hl 3 rfl) ?_
  refine p_iast (x := zi903) hx hb hK hw hS hW kd16 (by decide) rfl (hW.len kd16 (n := 403) rfl (by decide)) (vp_b bd960 (by decide) (by decide)) dX12_token_29 (fun hp18 eh19 H locs hw hS => ?_)
  have ok20 := wr_64000 ok13 kd16 eh19
  refine lv_aload_n hx hb dX12_token_30 rfl (lv_at hl 0 rfl) ?_
  obtain ⟨qa22, eq21, kd23⟩ := rd_13008 ok20 kd900
  refine p_get (ci := 12) (v := .ref qa22) (C := RX12) (T := TX12) (N := 69) hx hb hT iw_X12 hown hK hw hW kd900 (by decide) rfl rfl 8 (by decide) eq21 (hT _ tb_1382) (fun _ h9 => h9) dX12_token_31 ?_
  refine lv_aload_n hx hb dX12_token_34 rfl (lv_at hl 0 rfl) ?_
  have eq24 : hp18 qa900 10 = .int zi960 := Eq.trans (up_at eh19 (Or.inl (kd_ne kd900 kd16 (by decide)))) eq17
  refine p_get (ci := 12) (v := .int zi960) (C := RX12) (T := TX12) (N := 69) hx hb hT iw_X12 hown hK hw hW kd900 (by decide) rfl rfl 10 (by decide) eq24 (hT _ tb_1384) (fun _ h9 => h9) dX12_token_35 ?_
  refine lv_lload hx hb dX12_token_38 (lv_at hl 4 rfl) ?_
  refine p_last (x := wl904) hx hb hK hw hS hW kd23 (by decide) rfl (hW.len kd23 (n := 403) rfl (by decide)) (vp_b bd960 (by decide) (by decide)) dX12_token_40 (fun hp25 eh26 H locs hw hS => ?_)
  have ok27 := wr_65000 ok20 kd23 eh26
  refine lv_aload_n hx hb dX12_token_41 rfl (lv_at hl 0 rfl) ?_
  refine lv_dup hx hb dX12_token_42 rfl ?_
  have eq28 : hp25 qa900 10 = .int zi960 := Eq.trans (up_at eh26 (Or.inl (kd_ne kd900 kd23 (by decide)))) eq24
  refine p_get (ci := 12) (v := .int zi960) (C := RX12) (T := TX12) (N := 69) hx hb hT iw_X12 hown hK hw hW kd900 (by decide) rfl rfl 10 (by decide) eq28 (hT _ tb_1384) (fun _ h9 => h9) dX12_token_43 ?_
  refine lv_iconst (v := 1) hx hb dX12_token_46 (by decide) ?_
  refine lv_iadd hx hb dX12_token_47 (lv_topi (fun zi29 ea30 => ?_))
  have bd31 : (1 : Int) ≤ zi29.toInt ∧ zi29.toInt ≤ 65 := b_iadd ea30 bd960 bc_1 (by decide) (by decide) (by decide) (by decide)
  have qe32 : zi29.toInt = (zi960 : Int32).toInt + (1 : Int32).toInt := e_iadd ea30 bd960 bc_1 (by decide) (by decide)
  have qe33 : zi29.toInt = zi960.toInt + 1 := by have ha : (1 : Int32).toInt = 1 := (by decide); rw [ha] at qe32; exact qe32
  refine p_put (ci := 12) (v := .int zi29) (ty := .int) (C := RX12) (T := TX12) (N := 69) hx hb hT iw_X12 tyX12 tyX12_ok nmX12 hown hK hw hS hW kd900 (by decide) rfl rfl 10 (by decide) (hT _ tb_1384) (fun _ h9 => h9) rfl (by decide +kernel) rfl rfl dX12_token_48 (fun hp34 eh35 H locs hw hS => ?_)
  have ok36 := wr_13010 bd31 (by decide) (by decide) ok27 kd900 eh35
  rw [hQ]
  exact kz_v hx hb hr hlocks hS hp34 hw ⟨ok36, (Fr.put (cq := 13010) (Fr.put (cq := 65000) (Fr.put (cq := 64000) (Fr.put (cq := 63000) (Fr.put (cq := 62000) (Fr.rf) eh5 kd3 (cd_a (by decide)) (by decide)) eh12 kd9 (cd_a (by decide)) (by decide)) eh19 kd16 (cd_a (by decide)) (by decide)) eh26 kd23 (cd_a (by decide)) (by decide)) eh35 kd900 (cd_o (by decide)) (by decide)), ⟨_, (hp_self eh35), b_wid2 bd31 (by decide) (by decide)⟩, (by simp only [gi_of (hp_self eh35), gi_of eq960]; omega)⟩ (Nat.le_of_ble_eq_true rfl) (Nat.le_of_ble_eq_true rfl) dX12_token_51

set_option maxRecDepth 100000 in
set_option maxHeartbeats 4000000 in
theorem cX12_sign_4 (l : Launch) (G : va_G) (cy : Nat → ClassId) (ev : Ew) (K ln : Nat → Nat) (Ls : List Nat) (hW : SW K ln Ls) (sz : Nat) (hp0 : Nat → Nat → Value) (ok0 : Ok K hp0) (qa900 : Nat) (zi901 : Int32) (zi902 : Int32) (zi903 : Int32) (zi960 : Int32) (kd900 : K qa900 = 13) (eq960 : hp0 qa900 10 = .int zi960) (bd960 : ((0 : Int) ≤ zi960.toInt ∧ zi960.toInt ≤ 64)) : Met l yX12_sign (WS yX12_sign cX12_sign 5 (some .int)) { frames := 1, cells := 0, slots := 0, locals := 25 } (PB2 [.ref qa900, .int zi901, .int zi902, .int zi903] sz G cy ev (va_pl Ls (cellOf cy K ln hp0))) (QBi (S := (Nat → Nat → Value)) (fun (r : Int32) (u : (Nat → Nat → Value)) => Ok K u ∧ Fr [13010, 62000, 63000, 64000, 65000] K hp0 u ∧ ((1 : Int) ≤ r.toInt ∧ r.toInt ≤ 1) ∧ (∃ z : Int32, u qa900 10 = .int z ∧ ((1 : Int) ≤ z.toInt ∧ z.toInt ≤ 65)) ∧ ((gi u qa900 10) = (gi hp0 qa900 10) + 1)) G (fun u => va_pl Ls (cellOf cy K ln u)) (va_A (va_pl Ls (cellOf cy K ln hp0)) sz)) 0 0 (va_A (va_pl Ls (cellOf cy K ln hp0)) sz) := by
  refine met_of2 (y := yX12_sign) (L := 5) (av := [.ref qa900, .int zi901, .int zi902, .int zi903]) (Qc := fun A => QBi (S := (Nat → Nat → Value)) (fun (r : Int32) (u : (Nat → Nat → Value)) => Ok K u ∧ Fr [13010, 62000, 63000, 64000, 65000] K hp0 u ∧ ((1 : Int) ≤ r.toInt ∧ r.toInt ≤ 1) ∧ (∃ z : Int32, u qa900 10 = .int z ∧ ((1 : Int) ≤ z.toInt ∧ z.toInt ≤ 65)) ∧ ((gi u qa900 10) = (gi hp0 qa900 10) + 1)) G (fun u => va_pl Ls (cellOf cy K ln u)) A) (plainFor_of_name (by decide)) (Nat.le_of_ble_eq_true rfl) ?_
  intro p e s m below meth c hsz hx hb hr hml hown hT hlocks hin hK A hA hE hw hS ls hl
  have hw : PW G cy K ln Ls A hp0 s.heap := hw
  have hown : s.vm.findClass "LieClockModel" = some m.cls := hown
  have hl : lv_has ls 5 [(0, .ref qa900), (1, .int zi901), (2, .int zi902), (3, .int zi903)] := hl
  obtain ⟨Q, hQ⟩ : ∃ Q : State → Prop, Q = MQ below (QBi (S := (Nat → Nat → Value)) (fun (r : Int32) (u : (Nat → Nat → Value)) => Ok K u ∧ Fr [13010, 62000, 63000, 64000, 65000] K hp0 u ∧ ((1 : Int) ≤ r.toInt ∧ r.toInt ≤ 1) ∧ (∃ z : Int32, u qa900 10 = .int z ∧ ((1 : Int) ≤ z.toInt ∧ z.toInt ≤ 65)) ∧ ((gi u qa900 10) = (gi hp0 qa900 10) + 1)) G (fun u => va_pl Ls (cellOf cy K ln u)) A) ([.ref qa900, .int zi901, .int zi902, .int zi903] : List Value).toArray s 0 0 A := ⟨_, rfl⟩
  rw [← hQ]
  refine lv_iload_n hx hb dX12_sign_0 rfl (lv_at hl 2 rfl) ?_
  refine lv_bipush (v := 59) hx hb dX12_sign_1 (by decide) ?_
  have jn15 : ∀ (zi13 : Int32) (H : Heap) (locs : List Loc) (ls : Array Slot), ((3 : Int) ≤ zi13.toInt ∧ zi13.toInt ≤ 7) → lv_has ls 5 [(0, .ref qa900), (1, .int zi901), (2, .int zi902)] → PW G cy K ln Ls A hp0 H → va_S A s.heap H locs → W p l e ({ frames := 1, cells := 0, slots := 0, locals := 25 } : Room) s m ([.ref qa900, .int zi901, .int zi902, .int zi903] : List Value).toArray below meth c H locs 0 0 Q (F0 m 43 ls [.int zi13]) := by
    intro zi13 H locs ls bd14 hl hw hS
    refine lv_istore (lv' := [(4, .int zi13), (0, .ref qa900), (1, .int zi901), (2, .int zi902)]) hx hb dX12_sign_43 hl (by decide) rfl (fun ls hl => ?_)
    refine lv_iload_n hx hb dX12_sign_45 rfl (lv_at hl 3 rfl) ?_
    refine lv_bipush (v := 43) hx hb dX12_sign_46 (by decide) ?_
    have jn21 : ∀ (zi19 : Int32) (H : Heap) (locs : List Loc) (ls : Array Slot), ((3 : Int) ≤ zi19.toInt ∧ zi19.toInt ≤ 8) → lv_has ls 5 [(0, .ref qa900), (1, .int zi901), (2, .int zi902), (4, .int zi19)] → PW G cy K ln Ls A hp0 H → va_S A s.heap H locs → W p l e ({ frames := 1, cells := 0, slots := 0, locals := 25 } : Room) s m ([.ref qa900, .int zi901, .int zi902, .int zi903] : List Value).toArray below meth c H locs 0 0 Q (F0 m 55 ls []) := by
      intro zi19 H locs ls bd20 hl hw hS
      refine lv_iload_n hx hb dX12_sign_55 rfl (lv_at hl 2 rfl) ?_
      refine lv_bipush (v := 45) hx hb dX12_sign_56 (by decide) ?_
      have jn27 : ∀ (zi25 : Int32) (H : Heap) (locs : List Loc) (ls : Array Slot), ((3 : Int) ≤ zi25.toInt ∧ zi25.toInt ≤ 9) → lv_has ls 5 [(0, .ref qa900), (1, .int zi901), (2, .int zi902), (4, .int zi25)] → PW G cy K ln Ls A hp0 H → va_S A s.heap H locs → W p l e ({ frames := 1, cells := 0, slots := 0, locals := 25 } : Room) s m ([.ref qa900, .int zi901, .int zi902, .int zi903] : List Value).toArray below meth c H locs 0 0 Q (F0 m 65 ls []) := by
        intro zi25 H locs ls bd26 hl hw hS
        refine lv_iload_n hx hb dX12_sign_65 rfl (lv_at hl 2 rfl) ?_
        refine lv_bipush (v := 42) hx hb dX12_sign_66 (by decide) ?_
        have jn33 : ∀ (zi31 : Int32) (H : Heap) (locs : List Loc) (ls : Array Slot), ((3 : Int) ≤ zi31.toInt ∧ zi31.toInt ≤ 10) → lv_has ls 5 [(0, .ref qa900), (1, .int zi901), (2, .int zi902), (4, .int zi31)] → PW G cy K ln Ls A hp0 H → va_S A s.heap H locs → W p l e ({ frames := 1, cells := 0, slots := 0, locals := 25 } : Room) s m ([.ref qa900, .int zi901, .int zi902, .int zi903] : List Value).toArray below meth c H locs 0 0 Q (F0 m 75 ls []) := by
          intro zi31 H locs ls bd32 hl hw hS
          refine lv_iload_n hx hb dX12_sign_75 rfl (lv_at hl 2 rfl) ?_
          refine lv_bipush (v := 47) hx hb dX12_sign_76 (by decide) ?_
          have jn39 : ∀ (zi37 : Int32) (H : Heap) (locs : List Loc) (ls : Array Slot), ((3 : Int) ≤ zi37.toInt ∧ zi37.toInt ≤ 15) → lv_has ls 5 [(0, .ref qa900), (1, .int zi901), (4, .int zi37)] → PW G cy K ln Ls A hp0 H → va_S A s.heap H locs → W p l e ({ frames := 1, cells := 0, slots := 0, locals := 25 } : Room) s m ([.ref qa900, .int zi901, .int zi902, .int zi903] : List Value).toArray below meth c H locs 0 0 Q (F0 m 85 ls []) := by
            intro zi37 H locs ls bd38 hl hw hS
            refine lv_aload_n hx hb dX12_sign_85 rfl (lv_at hl 0 rfl) ?_
            refine lv_iload hx hb dX12_sign_86 (lv_at hl 2 rfl) ?_
            refine lv_iload_n hx hb dX12_sign_88 rfl (lv_at hl 1 rfl) ?_
            refine lv_iconst (v := 0) hx hb dX12_sign_89 (by decide) ?_
            refine lv_lconst (v := 0) hx hb dX12_sign_90 (by decide) ?_
            refine kq_v hw hS hA (va_runV (As := [.int zi37, .int zi901, .int 0, .long 0]) (rest := []) ⟨hx, hb, hml, hown, hT⟩ (cX12_token_4 l G cy ev K ln Ls hW _ hp0 ok0 qa900 zi37 zi901 0 0 zi960 kd900 eq960 (b_wid2 bd960 (by decide) (by decide))) (cwV 4 hT (good_V tb_1609 tb_1606 tb_1608 tb_50 tb_122) rfl rfl rfl (by decide +kernel) ⟨Nat.le_of_ble_eq_true rfl, Nat.le_of_ble_eq_true rfl⟩) (pool_preV (ci := 12) hK hE hS hA hw hW kd900 (by decide) rfl) rfl rfl hl.1 rfl (lv_room (Nat.le_of_ble_eq_true rfl)) dX12_sign_91 ⟨Nat.le_of_ble_eq_true rfl, Nat.le_of_ble_eq_true rfl⟩) (fun hp40 H locs hq43 hw hS => ?_)
            obtain ⟨ok41, F42, ⟨zi45, eq46, bd47⟩, rh48⟩ := hq43
            have hw : PW G cy K ln Ls A hp40 H := hw
            simp only [gi_of eq46, gi_of eq960] at rh48
            refine lv_iconst (v := 1) hx hb dX12_sign_94 (by decide) ?_
            rw [hQ]
            exact kz_i hx hb hr hlocks hS rfl hp40 hw ⟨ok41, (Fr.tr (Fr.rf) F42 (by decide)), (b_wid2 bc_1 (by decide) (by decide)), ⟨_, eq46, b_wid2 bd47 (by decide) (by decide)⟩, (by simp only [gi_of eq46, gi_of eq960]; omega)⟩ (Nat.le_of_ble_eq_true rfl) (Nat.le_of_ble_eq_true rfl) dX12_sign_95
          refine lv_icmp_ne (tgt := 85) hx hb dX12_sign_78 (by decide) (fun cn34 => ?_) (fun cn34 => ?_)
          · skip
            have tf49 : (zi902 : Int32).toInt ≠ (47 : Int32).toInt := fun e => cn34 (Int32.toInt_inj.mp e)
            have := toi bc_47
            exact jn39 zi31 _ _ ls (b_wid2 bd32 (by decide) (by decide)) (lv_sub hl [0, 1, 3] rfl) hw hS
          · skip
            have bd50 : (47 : Int) ≤ zi902.toInt ∧ zi902.toInt ≤ 47 := r_eq_x cn34 (b_all zi902) bc_47 (by decide) (by decide)
            refine lv_bipush (v := 15) hx hb dX12_sign_81 (by decide) ?_
            refine lv_istore (lv' := [(4, .int 15), (0, .ref qa900), (1, .int zi901), (2, .int zi902)]) hx hb dX12_sign_83 hl (by decide) rfl (fun ls hl => ?_)
            exact jn39 15 _ _ ls (b_wid2 bc_15 (by decide) (by decide)) (lv_sub hl [1, 2, 0] rfl) hw hS
        refine lv_icmp_ne (tgt := 75) hx hb dX12_sign_68 (by decide) (fun cn28 => ?_) (fun cn28 => ?_)
        · skip
          have tf51 : (zi902 : Int32).toInt ≠ (42 : Int32).toInt := fun e => cn28 (Int32.toInt_inj.mp e)
          have := toi bc_42
          exact jn33 zi25 _ _ ls (b_wid2 bd26 (by decide) (by decide)) (lv_sub hl [0, 1, 2, 3] rfl) hw hS
        · skip
          have bd52 : (42 : Int) ≤ zi902.toInt ∧ zi902.toInt ≤ 42 := r_eq_x cn28 (b_all zi902) bc_42 (by decide) (by decide)
          refine lv_bipush (v := 10) hx hb dX12_sign_71 (by decide) ?_
          refine lv_istore (lv' := [(4, .int 10), (0, .ref qa900), (1, .int zi901), (2, .int zi902)]) hx hb dX12_sign_73 hl (by decide) rfl (fun ls hl => ?_)
          exact jn33 10 _ _ ls (b_wid2 bc_10 (by decide) (by decide)) (lv_sub hl [1, 2, 3, 0] rfl) hw hS
      refine lv_icmp_ne (tgt := 65) hx hb dX12_sign_58 (by decide) (fun cn22 => ?_) (fun cn22 => ?_)
      · skip
        have tf53 : (zi902 : Int32).toInt ≠ (45 : Int32).toInt := fun e => cn22 (Int32.toInt_inj.mp e)
        have := toi bc_45
        exact jn27 zi19 _ _ ls (b_wid2 bd20 (by decide) (by decide)) (lv_sub hl [0, 1, 2, 3] rfl) hw hS
      · skip
        have bd54 : (45 : Int) ≤ zi902.toInt ∧ zi902.toInt ≤ 45 := r_eq_x cn22 (b_all zi902) bc_45 (by decide) (by decide)
        refine lv_bipush (v := 9) hx hb dX12_sign_61 (by decide) ?_
        refine lv_istore (lv' := [(4, .int 9), (0, .ref qa900), (1, .int zi901), (2, .int zi902)]) hx hb dX12_sign_63 hl (by decide) rfl (fun ls hl => ?_)
        exact jn27 9 _ _ ls (b_wid2 bc_9 (by decide) (by decide)) (lv_sub hl [1, 2, 3, 0] rfl) hw hS
    refine lv_icmp_ne (tgt := 55) hx hb dX12_sign_48 (by decide) (fun cn16 => ?_) (fun cn16 => ?_)
    · skip
      have tf55 : (zi902 : Int32).toInt ≠ (43 : Int32).toInt := fun e => cn16 (Int32.toInt_inj.mp e)
      have := toi bc_43
      exact jn21 zi13 _ _ ls (b_wid2 bd14 (by decide) (by decide)) (lv_sub hl [1, 2, 3, 0] rfl) hw hS
    · skip
      have bd56 : (43 : Int) ≤ zi902.toInt ∧ zi902.toInt ≤ 43 := r_eq_x cn16 (b_all zi902) bc_43 (by decide) (by decide)
      refine lv_bipush (v := 8) hx hb dX12_sign_51 (by decide) ?_
      refine lv_istore (lv' := [(4, .int 8), (0, .ref qa900), (1, .int zi901), (2, .int zi902)]) hx hb dX12_sign_53 hl (by decide) rfl (fun ls hl => ?_)
      exact jn21 8 _ _ ls (b_wid2 bc_8 (by decide) (by decide)) (lv_sub hl [1, 2, 3, 0] rfl) hw hS
  refine lv_icmp_ne (tgt := 10) hx hb dX12_sign_3 (by decide) (fun cn1 => ?_) (fun cn1 => ?_)
  · skip
    have tf57 : (zi902 : Int32).toInt ≠ (59 : Int32).toInt := fun e => cn1 (Int32.toInt_inj.mp e)
    have := toi bc_59
    refine lv_iload_n hx hb dX12_sign_10 rfl (lv_at hl 2 rfl) ?_
    refine lv_bipush (v := 61) hx hb dX12_sign_11 (by decide) ?_
    refine lv_icmp_ne (tgt := 20) hx hb dX12_sign_13 (by decide) (fun cn58 => ?_) (fun cn58 => ?_)
    · skip
      have tf59 : (zi902 : Int32).toInt ≠ (61 : Int32).toInt := fun e => cn58 (Int32.toInt_inj.mp e)
      have := toi bc_61
      refine lv_iload_n hx hb dX12_sign_20 rfl (lv_at hl 2 rfl) ?_
      refine lv_bipush (v := 40) hx hb dX12_sign_21 (by decide) ?_
      refine lv_icmp_ne (tgt := 31) hx hb dX12_sign_23 (by decide) (fun cn60 => ?_) (fun cn60 => ?_)
      · skip
        have tf61 : (zi902 : Int32).toInt ≠ (40 : Int32).toInt := fun e => cn60 (Int32.toInt_inj.mp e)
        have := toi bc_40
        refine lv_iload_n hx hb dX12_sign_31 rfl (lv_at hl 2 rfl) ?_
        refine lv_bipush (v := 41) hx hb dX12_sign_32 (by decide) ?_
        refine lv_icmp_ne (tgt := 42) hx hb dX12_sign_34 (by decide) (fun cn62 => ?_) (fun cn62 => ?_)
        · skip
          have tf63 : (zi902 : Int32).toInt ≠ (41 : Int32).toInt := fun e => cn62 (Int32.toInt_inj.mp e)
          have := toi bc_41
          refine lv_iconst (v := 3) hx hb dX12_sign_42 (by decide) ?_
          exact jn15 3 _ _ ls (b_wid2 bc_3 (by decide) (by decide)) (lv_sub hl [0, 1, 2] rfl) hw hS
        · skip
          have bd64 : (41 : Int) ≤ zi902.toInt ∧ zi902.toInt ≤ 41 := r_eq_x cn62 (b_all zi902) bc_41 (by decide) (by decide)
          refine lv_bipush (v := 7) hx hb dX12_sign_37 (by decide) ?_
          refine lv_goto (tgt := 43) hx hb dX12_sign_39 (by decide) ?_
          exact jn15 7 _ _ ls (b_wid2 bc_7 (by decide) (by decide)) (lv_sub hl [0, 1, 2] rfl) hw hS
      · skip
        have bd65 : (40 : Int) ≤ zi902.toInt ∧ zi902.toInt ≤ 40 := r_eq_x cn60 (b_all zi902) bc_40 (by decide) (by decide)
        refine lv_bipush (v := 6) hx hb dX12_sign_26 (by decide) ?_
        refine lv_goto (tgt := 43) hx hb dX12_sign_28 (by decide) ?_
        exact jn15 6 _ _ ls (b_wid2 bc_6 (by decide) (by decide)) (lv_sub hl [0, 1, 2] rfl) hw hS
    · skip
      have bd66 : (61 : Int) ≤ zi902.toInt ∧ zi902.toInt ≤ 61 := r_eq_x cn58 (b_all zi902) bc_61 (by decide) (by decide)
      refine lv_iconst (v := 5) hx hb dX12_sign_16 (by decide) ?_
      refine lv_goto (tgt := 43) hx hb dX12_sign_17 (by decide) ?_
      exact jn15 5 _ _ ls (b_wid2 bc_5 (by decide) (by decide)) (lv_sub hl [0, 1, 2] rfl) hw hS
  · skip
    have bd67 : (59 : Int) ≤ zi902.toInt ∧ zi902.toInt ≤ 59 := r_eq_x cn1 (b_all zi902) bc_59 (by decide) (by decide)
    refine lv_iconst (v := 4) hx hb dX12_sign_6 (by decide) ?_
    refine lv_goto (tgt := 43) hx hb dX12_sign_7 (by decide) ?_
    exact jn15 4 _ _ ls (b_wid2 bc_4 (by decide) (by decide)) (lv_sub hl [0, 1, 2] rfl) hw hS

set_option maxRecDepth 100000 in
set_option maxHeartbeats 4000000 in
theorem cX12_token_5 (l : Launch) (G : va_G) (cy : Nat → ClassId) (ev : Ew) (K ln : Nat → Nat) (Ls : List Nat) (hW : SW K ln Ls) (sz : Nat) (hp0 : Nat → Nat → Value) (ok0 : Ok K hp0) (qa900 : Nat) (zi901 : Int32) (zi902 : Int32) (zi903 : Int32) (wl904 : Int64) (zi960 : Int32) (kd900 : K qa900 = 13) (eq960 : hp0 qa900 10 = .int zi960) (bd960 : ((0 : Int) ≤ zi960.toInt ∧ zi960.toInt ≤ 400)) : Met l yX12_token (WS yX12_token cX12_token 6 none) { frames := 0, cells := 0, slots := 0, locals := 0 } (PB2 [.ref qa900, .int zi901, .int zi902, .int zi903, .long wl904] sz G cy ev (va_pl Ls (cellOf cy K ln hp0))) (QBv (S := (Nat → Nat → Value)) (fun u : (Nat → Nat → Value) => Ok K u ∧ Fr [13010, 62000, 63000, 64000, 65000] K hp0 u ∧ (∃ z : Int32, u qa900 10 = .int z ∧ ((1 : Int) ≤ z.toInt ∧ z.toInt ≤ 401)) ∧ ((gi u qa900 10) = (gi hp0 qa900 10) + 1)) G (fun u => va_pl Ls (cellOf cy K ln u)) (va_A (va_pl Ls (cellOf cy K ln hp0)) sz)) 0 0 (va_A (va_pl Ls (cellOf cy K ln hp0)) sz) := by
  refine met_of2 (y := yX12_token) (L := 6) (av := [.ref qa900, .int zi901, .int zi902, .int zi903, .long wl904]) (Qc := fun A => QBv (S := (Nat → Nat → Value)) (fun u : (Nat → Nat → Value) => Ok K u ∧ Fr [13010, 62000, 63000, 64000, 65000] K hp0 u ∧ (∃ z : Int32, u qa900 10 = .int z ∧ ((1 : Int) ≤ z.toInt ∧ z.toInt ≤ 401)) ∧ ((gi u qa900 10) = (gi hp0 qa900 10) + 1)) G (fun u => va_pl Ls (cellOf cy K ln u)) A) (plainFor_of_name (by decide)) (Nat.le_of_ble_eq_true rfl) ?_
  intro p e s m below meth c hsz hx hb hr hml hown hT hlocks hin hK A hA hE hw hS ls hl
  have hw : PW G cy K ln Ls A hp0 s.heap := hw
  have hown : s.vm.findClass "LieClockModel" = some m.cls := hown
  have hl : lv_has ls 6 [(0, .ref qa900), (1, .int zi901), (2, .int zi902), (3, .int zi903), (4, .long wl904)] := hl
  obtain ⟨Q, hQ⟩ : ∃ Q : State → Prop, Q = MQ below (QBv (S := (Nat → Nat → Value)) (fun u : (Nat → Nat → Value) => Ok K u ∧ Fr [13010, 62000, 63000, 64000, 65000] K hp0 u ∧ (∃ z : Int32, u qa900 10 = .int z ∧ ((1 : Int) ≤ z.toInt ∧ z.toInt ≤ 401)) ∧ ((gi u qa900 10) = (gi hp0 qa900 10) + 1)) G (fun u => va_pl Ls (cellOf cy K ln u)) A) ([.ref qa900, .int zi901, .int zi902, .int zi903, .long wl904] : List Value).toArray s 0 0 A := ⟨_, rfl⟩
  rw [← hQ]
  refine lv_aload_n hx hb dX12_token_0 rfl (lv_at hl 0 rfl) ?_
  obtain ⟨qa2, eq1, kd3⟩ := rd_13005 ok0 kd900
  refine p_get (ci := 12) (v := .ref qa2) (C := RX12) (T := TX12) (N := 69) hx hb hT iw_X12 hown hK hw hW kd900 (by decide) rfl rfl 5 (by decide) eq1 (hT _ tb_1379) (fun _ h9 => h9) dX12_token_1 ?_
  refine lv_aload_n hx hb dX12_token_4 rfl (lv_at hl 0 rfl) ?_
  refine p_get (ci := 12) (v := .int zi960) (C := RX12) (T := TX12) (N := 69) hx hb hT iw_X12 hown hK hw hW kd900 (by decide) rfl rfl 10 (by decide) eq960 (hT _ tb_1384) (fun _ h9 => h9) dX12_token_5 ?_
  refine lv_iload_n hx hb dX12_token_8 rfl (lv_at hl 1 rfl) ?_
  refine p_iast (x := zi901) hx hb hK hw hS hW kd3 (by decide) rfl (hW.len kd3 (n := 403) rfl (by decide)) (vp_b bd960 (by decide) (by decide)) dX12_token_9 (fun hp4 eh5 H locs hw hS => ?_)
  have ok6 := wr_62000 ok0 kd3 eh5
  refine lv_aload_n hx hb dX12_token_10 rfl (lv_at hl 0 rfl) ?_
  obtain ⟨qa8, eq7, kd9⟩ := rd_13006 ok6 kd900
  refine p_get (ci := 12) (v := .ref qa8) (C := RX12) (T := TX12) (N := 69) hx hb hT iw_X12 hown hK hw hW kd900 (by decide) rfl rfl 6 (by decide) eq7 (hT _ tb_1380) (fun _ h9 => h9) dX12_token_11 ?_
  refine lv_aload_n hx hb dX12_token_14 rfl (lv_at hl 0 rfl) ?_
  have eq10 : hp4 qa900 10 = .int zi960 := Eq.trans (up_at eh5 (Or.inl (kd_ne kd900 kd3 (by decide)))) eq960
  refine p_get (ci := 12) (v := .int zi960) (C := RX12) (T := TX12) (N := 69) hx hb hT iw_X12 hown hK hw hW kd900 (by decide) rfl rfl 10 (by decide) eq10 (hT _ tb_1384) (fun _ h9 => h9) dX12_token_15 ?_
  refine lv_iload_n hx hb dX12_token_18 rfl (lv_at hl 2 rfl) ?_
  refine p_iast (x := zi902) hx hb hK hw hS hW kd9 (by decide) rfl (hW.len kd9 (n := 403) rfl (by decide)) (vp_b bd960 (by decide) (by decide)) dX12_token_19 (fun hp11 eh12 H locs hw hS => ?_)
  have ok13 := wr_63000 ok6 kd9 eh12
  refine lv_aload_n hx hb dX12_token_20 rfl (lv_at hl 0 rfl) ?_
  obtain ⟨qa15, eq14, kd16⟩ := rd_13007 ok13 kd900
  refine p_get (ci := 12) (v := .ref qa15) (C := RX12) (T := TX12) (N := 69) hx hb hT iw_X12 hown hK hw hW kd900 (by decide) rfl rfl 7 (by decide) eq14 (hT _ tb_1381) (fun _ h9 => h9) dX12_token_21 ?_
  refine lv_aload_n hx hb dX12_token_24 rfl (lv_at hl 0 rfl) ?_
  have eq17 : hp11 qa900 10 = .int zi960 := Eq.trans (up_at eh12 (Or.inl (kd_ne kd900 kd9 (by decide)))) eq10
  refine p_get (ci := 12) (v := .int zi960) (C := RX12) (T := TX12) (N := 69) hx hb hT iw_X12 hown hK hw hW kd900 (by decide) rfl rfl 10 (by decide) eq17 (hT _ tb_1384) (fun _ h9 => h9) dX12_token_25 ?_
  refine lv_iload_n hx hb dX12_token_28 rfl (lv_at hl 3 rfl) ?_
  refine p_iast (x := zi903) hx hb hK hw hS hW kd16 (by decide) rfl (hW.len kd16 (n := 403) rfl (by decide)) (vp_b bd960 (by decide) (by decide)) dX12_token_29 (fun hp18 eh19 H locs hw hS => ?_)
  have ok20 := wr_64000 ok13 kd16 eh19
  refine lv_aload_n hx hb dX12_token_30 rfl (lv_at hl 0 rfl) ?_
  obtain ⟨qa22, eq21, kd23⟩ := rd_13008 ok20 kd900
  refine p_get (ci := 12) (v := .ref qa22) (C := RX12) (T := TX12) (N := 69) hx hb hT iw_X12 hown hK hw hW kd900 (by decide) rfl rfl 8 (by decide) eq21 (hT _ tb_1382) (fun _ h9 => h9) dX12_token_31 ?_
  refine lv_aload_n hx hb dX12_token_34 rfl (lv_at hl 0 rfl) ?_
  have eq24 : hp18 qa900 10 = .int zi960 := Eq.trans (up_at eh19 (Or.inl (kd_ne kd900 kd16 (by decide)))) eq17
  refine p_get (ci := 12) (v := .int zi960) (C := RX12) (T := TX12) (N := 69) hx hb hT iw_X12 hown hK hw hW kd900 (by decide) rfl rfl 10 (by decide) eq24 (hT _ tb_1384) (fun _ h9 => h9) dX12_token_35 ?_
  refine lv_lload hx hb dX12_token_38 (lv_at hl 4 rfl) ?_
  refine p_last (x := wl904) hx hb hK hw hS hW kd23 (by decide) rfl (hW.len kd23 (n := 403) rfl (by decide)) (vp_b bd960 (by decide) (by decide)) dX12_token_40 (fun hp25 eh26 H locs hw hS => ?_)
  have ok27 := wr_65000 ok20 kd23 eh26
  refine lv_aload_n hx hb dX12_token_41 rfl (lv_at hl 0 rfl) ?_
  refine lv_dup hx hb dX12_token_42 rfl ?_
  have eq28 : hp25 qa900 10 = .int zi960 := Eq.trans (up_at eh26 (Or.inl (kd_ne kd900 kd23 (by decide)))) eq24
  refine p_get (ci := 12) (v := .int zi960) (C := RX12) (T := TX12) (N := 69) hx hb hT iw_X12 hown hK hw hW kd900 (by decide) rfl rfl 10 (by decide) eq28 (hT _ tb_1384) (fun _ h9 => h9) dX12_token_43 ?_
  refine lv_iconst (v := 1) hx hb dX12_token_46 (by decide) ?_
  refine lv_iadd hx hb dX12_token_47 (lv_topi (fun zi29 ea30 => ?_))
  have bd31 : (1 : Int) ≤ zi29.toInt ∧ zi29.toInt ≤ 401 := b_iadd ea30 bd960 bc_1 (by decide) (by decide) (by decide) (by decide)
  have qe32 : zi29.toInt = (zi960 : Int32).toInt + (1 : Int32).toInt := e_iadd ea30 bd960 bc_1 (by decide) (by decide)
  have qe33 : zi29.toInt = zi960.toInt + 1 := by have ha : (1 : Int32).toInt = 1 := (by decide); rw [ha] at qe32; exact qe32
  refine p_put (ci := 12) (v := .int zi29) (ty := .int) (C := RX12) (T := TX12) (N := 69) hx hb hT iw_X12 tyX12 tyX12_ok nmX12 hown hK hw hS hW kd900 (by decide) rfl rfl 10 (by decide) (hT _ tb_1384) (fun _ h9 => h9) rfl (by decide +kernel) rfl rfl dX12_token_48 (fun hp34 eh35 H locs hw hS => ?_)
  have ok36 := wr_13010 bd31 (by decide) (by decide) ok27 kd900 eh35
  rw [hQ]
  exact kz_v hx hb hr hlocks hS hp34 hw ⟨ok36, (Fr.put (cq := 13010) (Fr.put (cq := 65000) (Fr.put (cq := 64000) (Fr.put (cq := 63000) (Fr.put (cq := 62000) (Fr.rf) eh5 kd3 (cd_a (by decide)) (by decide)) eh12 kd9 (cd_a (by decide)) (by decide)) eh19 kd16 (cd_a (by decide)) (by decide)) eh26 kd23 (cd_a (by decide)) (by decide)) eh35 kd900 (cd_o (by decide)) (by decide)), ⟨_, (hp_self eh35), b_wid2 bd31 (by decide) (by decide)⟩, (by simp only [gi_of (hp_self eh35), gi_of eq960]; omega)⟩ (Nat.le_of_ble_eq_true rfl) (Nat.le_of_ble_eq_true rfl) dX12_token_51

set_option maxRecDepth 100000 in
set_option maxHeartbeats 4000000 in
theorem cX12_sign_5 (l : Launch) (G : va_G) (cy : Nat → ClassId) (ev : Ew) (K ln : Nat → Nat) (Ls : List Nat) (hW : SW K ln Ls) (sz : Nat) (hp0 : Nat → Nat → Value) (ok0 : Ok K hp0) (qa900 : Nat) (zi901 : Int32) (zi902 : Int32) (zi903 : Int32) (zi960 : Int32) (kd900 : K qa900 = 13) (eq960 : hp0 qa900 10 = .int zi960) (bd960 : ((0 : Int) ≤ zi960.toInt ∧ zi960.toInt ≤ 400)) : Met l yX12_sign (WS yX12_sign cX12_sign 5 (some .int)) { frames := 1, cells := 0, slots := 0, locals := 25 } (PB2 [.ref qa900, .int zi901, .int zi902, .int zi903] sz G cy ev (va_pl Ls (cellOf cy K ln hp0))) (QBi (S := (Nat → Nat → Value)) (fun (r : Int32) (u : (Nat → Nat → Value)) => Ok K u ∧ Fr [13010, 62000, 63000, 64000, 65000] K hp0 u ∧ ((1 : Int) ≤ r.toInt ∧ r.toInt ≤ 1) ∧ (∃ z : Int32, u qa900 10 = .int z ∧ ((1 : Int) ≤ z.toInt ∧ z.toInt ≤ 401)) ∧ ((gi u qa900 10) = (gi hp0 qa900 10) + 1)) G (fun u => va_pl Ls (cellOf cy K ln u)) (va_A (va_pl Ls (cellOf cy K ln hp0)) sz)) 0 0 (va_A (va_pl Ls (cellOf cy K ln hp0)) sz) := by
  refine met_of2 (y := yX12_sign) (L := 5) (av := [.ref qa900, .int zi901, .int zi902, .int zi903]) (Qc := fun A => QBi (S := (Nat → Nat → Value)) (fun (r : Int32) (u : (Nat → Nat → Value)) => Ok K u ∧ Fr [13010, 62000, 63000, 64000, 65000] K hp0 u ∧ ((1 : Int) ≤ r.toInt ∧ r.toInt ≤ 1) ∧ (∃ z : Int32, u qa900 10 = .int z ∧ ((1 : Int) ≤ z.toInt ∧ z.toInt ≤ 401)) ∧ ((gi u qa900 10) = (gi hp0 qa900 10) + 1)) G (fun u => va_pl Ls (cellOf cy K ln u)) A) (plainFor_of_name (by decide)) (Nat.le_of_ble_eq_true rfl) ?_
  intro p e s m below meth c hsz hx hb hr hml hown hT hlocks hin hK A hA hE hw hS ls hl
  have hw : PW G cy K ln Ls A hp0 s.heap := hw
  have hown : s.vm.findClass "LieClockModel" = some m.cls := hown
  have hl : lv_has ls 5 [(0, .ref qa900), (1, .int zi901), (2, .int zi902), (3, .int zi903)] := hl
  obtain ⟨Q, hQ⟩ : ∃ Q : State → Prop, Q = MQ below (QBi (S := (Nat → Nat → Value)) (fun (r : Int32) (u : (Nat → Nat → Value)) => Ok K u ∧ Fr [13010, 62000, 63000, 64000, 65000] K hp0 u ∧ ((1 : Int) ≤ r.toInt ∧ r.toInt ≤ 1) ∧ (∃ z : Int32, u qa900 10 = .int z ∧ ((1 : Int) ≤ z.toInt ∧ z.toInt ≤ 401)) ∧ ((gi u qa900 10) = (gi hp0 qa900 10) + 1)) G (fun u => va_pl Ls (cellOf cy K ln u)) A) ([.ref qa900, .int zi901, .int zi902, .int zi903] : List Value).toArray s 0 0 A := ⟨_, rfl⟩
  rw [← hQ]
  refine lv_iload_n hx hb dX12_sign_0 rfl (lv_at hl 2 rfl) ?_
  refine lv_bipush (v := 59) hx hb dX12_sign_1 (by decide) ?_
  have jn15 : ∀ (zi13 : Int32) (H : Heap) (locs : List Loc) (ls : Array Slot), ((3 : Int) ≤ zi13.toInt ∧ zi13.toInt ≤ 7) → lv_has ls 5 [(0, .ref qa900), (1, .int zi901), (2, .int zi902)] → PW G cy K ln Ls A hp0 H → va_S A s.heap H locs → W p l e ({ frames := 1, cells := 0, slots := 0, locals := 25 } : Room) s m ([.ref qa900, .int zi901, .int zi902, .int zi903] : List Value).toArray below meth c H locs 0 0 Q (F0 m 43 ls [.int zi13]) := by
    intro zi13 H locs ls bd14 hl hw hS
    refine lv_istore (lv' := [(4, .int zi13), (0, .ref qa900), (1, .int zi901), (2, .int zi902)]) hx hb dX12_sign_43 hl (by decide) rfl (fun ls hl => ?_)
    refine lv_iload_n hx hb dX12_sign_45 rfl (lv_at hl 3 rfl) ?_
    refine lv_bipush (v := 43) hx hb dX12_sign_46 (by decide) ?_
    have jn21 : ∀ (zi19 : Int32) (H : Heap) (locs : List Loc) (ls : Array Slot), ((3 : Int) ≤ zi19.toInt ∧ zi19.toInt ≤ 8) → lv_has ls 5 [(0, .ref qa900), (1, .int zi901), (2, .int zi902), (4, .int zi19)] → PW G cy K ln Ls A hp0 H → va_S A s.heap H locs → W p l e ({ frames := 1, cells := 0, slots := 0, locals := 25 } : Room) s m ([.ref qa900, .int zi901, .int zi902, .int zi903] : List Value).toArray below meth c H locs 0 0 Q (F0 m 55 ls []) := by
      intro zi19 H locs ls bd20 hl hw hS
      refine lv_iload_n hx hb dX12_sign_55 rfl (lv_at hl 2 rfl) ?_
      refine lv_bipush (v := 45) hx hb dX12_sign_56 (by decide) ?_
      have jn27 : ∀ (zi25 : Int32) (H : Heap) (locs : List Loc) (ls : Array Slot), ((3 : Int) ≤ zi25.toInt ∧ zi25.toInt ≤ 9) → lv_has ls 5 [(0, .ref qa900), (1, .int zi901), (2, .int zi902), (4, .int zi25)] → PW G cy K ln Ls A hp0 H → va_S A s.heap H locs → W p l e ({ frames := 1, cells := 0, slots := 0, locals := 25 } : Room) s m ([.ref qa900, .int zi901, .int zi902, .int zi903] : List Value).toArray below meth c H locs 0 0 Q (F0 m 65 ls []) := by
        intro zi25 H locs ls bd26 hl hw hS
        refine lv_iload_n hx hb dX12_sign_65 rfl (lv_at hl 2 rfl) ?_
        refine lv_bipush (v := 42) hx hb dX12_sign_66 (by decide) ?_
        have jn33 : ∀ (zi31 : Int32) (H : Heap) (locs : List Loc) (ls : Array Slot), ((3 : Int) ≤ zi31.toInt ∧ zi31.toInt ≤ 10) → lv_has ls 5 [(0, .ref qa900), (1, .int zi901), (2, .int zi902), (4, .int zi31)] → PW G cy K ln Ls A hp0 H → va_S A s.heap H locs → W p l e ({ frames := 1, cells := 0, slots := 0, locals := 25 } : Room) s m ([.ref qa900, .int zi901, .int zi902, .int zi903] : List Value).toArray below meth c H locs 0 0 Q (F0 m 75 ls []) := by
          intro zi31 H locs ls bd32 hl hw hS
          refine lv_iload_n hx hb dX12_sign_75 rfl (lv_at hl 2 rfl) ?_
          refine lv_bipush (v := 47) hx hb dX12_sign_76 (by decide) ?_
          have jn39 : ∀ (zi37 : Int32) (H : Heap) (locs : List Loc) (ls : Array Slot), ((3 : Int) ≤ zi37.toInt ∧ zi37.toInt ≤ 15) → lv_has ls 5 [(0, .ref qa900), (1, .int zi901), (4, .int zi37)] → PW G cy K ln Ls A hp0 H → va_S A s.heap H locs → W p l e ({ frames := 1, cells := 0, slots := 0, locals := 25 } : Room) s m ([.ref qa900, .int zi901, .int zi902, .int zi903] : List Value).toArray below meth c H locs 0 0 Q (F0 m 85 ls []) := by
            intro zi37 H locs ls bd38 hl hw hS
            refine lv_aload_n hx hb dX12_sign_85 rfl (lv_at hl 0 rfl) ?_
            refine lv_iload hx hb dX12_sign_86 (lv_at hl 2 rfl) ?_
            refine lv_iload_n hx hb dX12_sign_88 rfl (lv_at hl 1 rfl) ?_
            refine lv_iconst (v := 0) hx hb dX12_sign_89 (by decide) ?_
            refine lv_lconst (v := 0) hx hb dX12_sign_90 (by decide) ?_
            refine kq_v hw hS hA (va_runV (As := [.int zi37, .int zi901, .int 0, .long 0]) (rest := []) ⟨hx, hb, hml, hown, hT⟩ (cX12_token_5 l G cy ev K ln Ls hW _ hp0 ok0 qa900 zi37 zi901 0 0 zi960 kd900 eq960 (b_wid2 bd960 (by decide) (by decide))) (cwV 4 hT (good_V tb_1609 tb_1606 tb_1608 tb_50 tb_122) rfl rfl rfl (by decide +kernel) ⟨Nat.le_of_ble_eq_true rfl, Nat.le_of_ble_eq_true rfl⟩) (pool_preV (ci := 12) hK hE hS hA hw hW kd900 (by decide) rfl) rfl rfl hl.1 rfl (lv_room (Nat.le_of_ble_eq_true rfl)) dX12_sign_91 ⟨Nat.le_of_ble_eq_true rfl, Nat.le_of_ble_eq_true rfl⟩) (fun hp40 H locs hq43 hw hS => ?_)
            obtain ⟨ok41, F42, ⟨zi45, eq46, bd47⟩, rh48⟩ := hq43
            have hw : PW G cy K ln Ls A hp40 H := hw
            simp only [gi_of eq46, gi_of eq960] at rh48
            refine lv_iconst (v := 1) hx hb dX12_sign_94 (by decide) ?_
            rw [hQ]
            exact kz_i hx hb hr hlocks hS rfl hp40 hw ⟨ok41, (Fr.tr (Fr.rf) F42 (by decide)), (b_wid2 bc_1 (by decide) (by decide)), ⟨_, eq46, b_wid2 bd47 (by decide) (by decide)⟩, (by simp only [gi_of eq46, gi_of eq960]; omega)⟩ (Nat.le_of_ble_eq_true rfl) (Nat.le_of_ble_eq_true rfl) dX12_sign_95
          refine lv_icmp_ne (tgt := 85) hx hb dX12_sign_78 (by decide) (fun cn34 => ?_) (fun cn34 => ?_)
          · skip
            have tf49 : (zi902 : Int32).toInt ≠ (47 : Int32).toInt := fun e => cn34 (Int32.toInt_inj.mp e)
            have := toi bc_47
            exact jn39 zi31 _ _ ls (b_wid2 bd32 (by decide) (by decide)) (lv_sub hl [0, 1, 3] rfl) hw hS
          · skip
            have bd50 : (47 : Int) ≤ zi902.toInt ∧ zi902.toInt ≤ 47 := r_eq_x cn34 (b_all zi902) bc_47 (by decide) (by decide)
            refine lv_bipush (v := 15) hx hb dX12_sign_81 (by decide) ?_
            refine lv_istore (lv' := [(4, .int 15), (0, .ref qa900), (1, .int zi901), (2, .int zi902)]) hx hb dX12_sign_83 hl (by decide) rfl (fun ls hl => ?_)
            exact jn39 15 _ _ ls (b_wid2 bc_15 (by decide) (by decide)) (lv_sub hl [1, 2, 0] rfl) hw hS
        refine lv_icmp_ne (tgt := 75) hx hb dX12_sign_68 (by decide) (fun cn28 => ?_) (fun cn28 => ?_)
        · skip
          have tf51 : (zi902 : Int32).toInt ≠ (42 : Int32).toInt := fun e => cn28 (Int32.toInt_inj.mp e)
          have := toi bc_42
          exact jn33 zi25 _ _ ls (b_wid2 bd26 (by decide) (by decide)) (lv_sub hl [0, 1, 2, 3] rfl) hw hS
        · skip
          have bd52 : (42 : Int) ≤ zi902.toInt ∧ zi902.toInt ≤ 42 := r_eq_x cn28 (b_all zi902) bc_42 (by decide) (by decide)
          refine lv_bipush (v := 10) hx hb dX12_sign_71 (by decide) ?_
          refine lv_istore (lv' := [(4, .int 10), (0, .ref qa900), (1, .int zi901), (2, .int zi902)]) hx hb dX12_sign_73 hl (by decide) rfl (fun ls hl => ?_)
          exact jn33 10 _ _ ls (b_wid2 bc_10 (by decide) (by decide)) (lv_sub hl [1, 2, 3, 0] rfl) hw hS
      refine lv_icmp_ne (tgt := 65) hx hb dX12_sign_58 (by decide) (fun cn22 => ?_) (fun cn22 => ?_)
      · skip
        have tf53 : (zi902 : Int32).toInt ≠ (45 : Int32).toInt := fun e => cn22 (Int32.toInt_inj.mp e)
        have := toi bc_45
        exact jn27 zi19 _ _ ls (b_wid2 bd20 (by decide) (by decide)) (lv_sub hl [0, 1, 2, 3] rfl) hw hS
      · skip
        have bd54 : (45 : Int) ≤ zi902.toInt ∧ zi902.toInt ≤ 45 := r_eq_x cn22 (b_all zi902) bc_45 (by decide) (by decide)
        refine lv_bipush (v := 9) hx hb dX12_sign_61 (by decide) ?_
        refine lv_istore (lv' := [(4, .int 9), (0, .ref qa900), (1, .int zi901), (2, .int zi902)]) hx hb dX12_sign_63 hl (by decide) rfl (fun ls hl => ?_)
        exact jn27 9 _ _ ls (b_wid2 bc_9 (by decide) (by decide)) (lv_sub hl [1, 2, 3, 0] rfl) hw hS
    refine lv_icmp_ne (tgt := 55) hx hb dX12_sign_48 (by decide) (fun cn16 => ?_) (fun cn16 => ?_)
    · skip
      have tf55 : (zi902 : Int32).toInt ≠ (43 : Int32).toInt := fun e => cn16 (Int32.toInt_inj.mp e)
      have := toi bc_43
      exact jn21 zi13 _ _ ls (b_wid2 bd14 (by decide) (by decide)) (lv_sub hl [1, 2, 3, 0] rfl) hw hS
    · skip
      have bd56 : (43 : Int) ≤ zi902.toInt ∧ zi902.toInt ≤ 43 := r_eq_x cn16 (b_all zi902) bc_43 (by decide) (by decide)
      refine lv_bipush (v := 8) hx hb dX12_sign_51 (by decide) ?_
      refine lv_istore (lv' := [(4, .int 8), (0, .ref qa900), (1, .int zi901), (2, .int zi902)]) hx hb dX12_sign_53 hl (by decide) rfl (fun ls hl => ?_)
      exact jn21 8 _ _ ls (b_wid2 bc_8 (by decide) (by decide)) (lv_sub hl [1, 2, 3, 0] rfl) hw hS
  refine lv_icmp_ne (tgt := 10) hx hb dX12_sign_3 (by decide) (fun cn1 => ?_) (fun cn1 => ?_)
  · skip
    have tf57 : (zi902 : Int32).toInt ≠ (59 : Int32).toInt := fun e => cn1 (Int32.toInt_inj.mp e)
    have := toi bc_59
    refine lv_iload_n hx hb dX12_sign_10 rfl (lv_at hl 2 rfl) ?_
    refine lv_bipush (v := 61) hx hb dX12_sign_11 (by decide) ?_
    refine lv_icmp_ne (tgt := 20) hx hb dX12_sign_13 (by decide) (fun cn58 => ?_) (fun cn58 => ?_)
    · skip
      have tf59 : (zi902 : Int32).toInt ≠ (61 : Int32).toInt := fun e => cn58 (Int32.toInt_inj.mp e)
      have := toi bc_61
      refine lv_iload_n hx hb dX12_sign_20 rfl (lv_at hl 2 rfl) ?_
      refine lv_bipush (v := 40) hx hb dX12_sign_21 (by decide) ?_
      refine lv_icmp_ne (tgt := 31) hx hb dX12_sign_23 (by decide) (fun cn60 => ?_) (fun cn60 => ?_)
      · skip
        have tf61 : (zi902 : Int32).toInt ≠ (40 : Int32).toInt := fun e => cn60 (Int32.toInt_inj.mp e)
        have := toi bc_40
        refine lv_iload_n hx hb dX12_sign_31 rfl (lv_at hl 2 rfl) ?_
        refine lv_bipush (v := 41) hx hb dX12_sign_32 (by decide) ?_
        refine lv_icmp_ne (tgt := 42) hx hb dX12_sign_34 (by decide) (fun cn62 => ?_) (fun cn62 => ?_)
        · skip
          have tf63 : (zi902 : Int32).toInt ≠ (41 : Int32).toInt := fun e => cn62 (Int32.toInt_inj.mp e)
          have := toi bc_41
          refine lv_iconst (v := 3) hx hb dX12_sign_42 (by decide) ?_
          exact jn15 3 _ _ ls (b_wid2 bc_3 (by decide) (by decide)) (lv_sub hl [0, 1, 2] rfl) hw hS
        · skip
          have bd64 : (41 : Int) ≤ zi902.toInt ∧ zi902.toInt ≤ 41 := r_eq_x cn62 (b_all zi902) bc_41 (by decide) (by decide)
          refine lv_bipush (v := 7) hx hb dX12_sign_37 (by decide) ?_
          refine lv_goto (tgt := 43) hx hb dX12_sign_39 (by decide) ?_
          exact jn15 7 _ _ ls (b_wid2 bc_7 (by decide) (by decide)) (lv_sub hl [0, 1, 2] rfl) hw hS
      · skip
        have bd65 : (40 : Int) ≤ zi902.toInt ∧ zi902.toInt ≤ 40 := r_eq_x cn60 (b_all zi902) bc_40 (by decide) (by decide)
        refine lv_bipush (v := 6) hx hb dX12_sign_26 (by decide) ?_
        refine lv_goto (tgt := 43) hx hb dX12_sign_28 (by decide) ?_
        exact jn15 6 _ _ ls (b_wid2 bc_6 (by decide) (by decide)) (lv_sub hl [0, 1, 2] rfl) hw hS
    · skip
      have bd66 : (61 : Int) ≤ zi902.toInt ∧ zi902.toInt ≤ 61 := r_eq_x cn58 (b_all zi902) bc_61 (by decide) (by decide)
      refine lv_iconst (v := 5) hx hb dX12_sign_16 (by decide) ?_
      refine lv_goto (tgt := 43) hx hb dX12_sign_17 (by decide) ?_
      exact jn15 5 _ _ ls (b_wid2 bc_5 (by decide) (by decide)) (lv_sub hl [0, 1, 2] rfl) hw hS
  · skip
    have bd67 : (59 : Int) ≤ zi902.toInt ∧ zi902.toInt ≤ 59 := r_eq_x cn1 (b_all zi902) bc_59 (by decide) (by decide)
    refine lv_iconst (v := 4) hx hb dX12_sign_6 (by decide) ?_
    refine lv_goto (tgt := 43) hx hb dX12_sign_7 (by decide) ?_
    exact jn15 4 _ _ ls (b_wid2 bc_4 (by decide) (by decide)) (lv_sub hl [0, 1, 2] rfl) hw hS

set_option maxRecDepth 100000 in
set_option maxHeartbeats 4000000 in
theorem cX12_cut_0 (l : Launch) (G : va_G) (cy : Nat → ClassId) (ev : Ew) (K ln : Nat → Nat) (Ls : List Nat) (hW : SW K ln Ls) (sz : Nat) (hp0 : Nat → Nat → Value) (ok0 : Ok K hp0) (qa900 : Nat) (kd900 : K qa900 = 13) : Met l yX12_cut (WS yX12_cut cX12_cut 8 none) { frames := 2, cells := 0, slots := 0, locals := 49 } (PB2 [.ref qa900] sz G cy ev (va_pl Ls (cellOf cy K ln hp0))) (QBv (S := (Nat → Nat → Value)) (fun u : (Nat → Nat → Value) => Ok K u ∧ Fr [13010, 62000, 63000, 64000, 65000] K hp0 u ∧ (∃ z : Int32, u qa900 10 = .int z ∧ ((1 : Int) ≤ z.toInt ∧ z.toInt ≤ 401))) G (fun u => va_pl Ls (cellOf cy K ln u)) (va_A (va_pl Ls (cellOf cy K ln hp0)) sz)) 0 0 (va_A (va_pl Ls (cellOf cy K ln hp0)) sz) := by
  refine met_of2 (y := yX12_cut) (L := 8) (av := [.ref qa900]) (Qc := fun A => QBv (S := (Nat → Nat → Value)) (fun u : (Nat → Nat → Value) => Ok K u ∧ Fr [13010, 62000, 63000, 64000, 65000] K hp0 u ∧ (∃ z : Int32, u qa900 10 = .int z ∧ ((1 : Int) ≤ z.toInt ∧ z.toInt ≤ 401))) G (fun u => va_pl Ls (cellOf cy K ln u)) A) (plainFor_of_name (by decide)) (Nat.le_of_ble_eq_true rfl) ?_
  intro p e s m below meth c hsz hx hb hr hml hown hT hlocks hin hK A hA hE hw hS ls hl
  have hw : PW G cy K ln Ls A hp0 s.heap := hw
  have hown : s.vm.findClass "LieClockModel" = some m.cls := hown
  have hl : lv_has ls 8 [(0, .ref qa900)] := hl
  obtain ⟨Q, hQ⟩ : ∃ Q : State → Prop, Q = MQ below (QBv (S := (Nat → Nat → Value)) (fun u : (Nat → Nat → Value) => Ok K u ∧ Fr [13010, 62000, 63000, 64000, 65000] K hp0 u ∧ (∃ z : Int32, u qa900 10 = .int z ∧ ((1 : Int) ≤ z.toInt ∧ z.toInt ≤ 401))) G (fun u => va_pl Ls (cellOf cy K ln u)) A) ([.ref qa900] : List Value).toArray s 0 0 A := ⟨_, rfl⟩
  rw [← hQ]
  refine lv_aload_n hx hb dX12_cut_0 rfl (lv_at hl 0 rfl) ?_
  refine lv_iconst (v := 0) hx hb dX12_cut_1 (by decide) ?_
  refine p_put (ci := 12) (v := .int 0) (ty := .int) (C := RX12) (T := TX12) (N := 69) hx hb hT iw_X12 tyX12 tyX12_ok nmX12 hown hK hw hS hW kd900 (by decide) rfl rfl 10 (by decide) (hT _ tb_1384) (fun _ h9 => h9) rfl (by decide +kernel) rfl rfl dX12_cut_2 (fun hp1 eh2 H locs hw hS => ?_)
  have ok3 := wr_13010 bc_0 (by decide) (by decide) ok0 kd900 eh2
  refine lv_iconst (v := 0) hx hb dX12_cut_5 (by decide) ?_
  refine lv_istore_n (lv' := [(1, .int 0), (0, .ref qa900)]) hx hb dX12_cut_6 rfl hl (by decide) rfl (fun ls hl => ?_)
  have lp44256 : ∀ (n44254 : Nat) (hp35409 : Nat → Nat → Value) (zi35408 : Int32) (zi35413 : Int32) (H : Heap) (locs : List Loc) (ls : Array Slot), (402 - zi35413.toInt) * 10000 + 4000 - (zi35408 : Int32).toInt < (n44254 : Int) → Ok K hp35409 → Fr [13010, 62000, 63000, 64000, 65000] K hp1 hp35409 → ((0 : Int) ≤ zi35408.toInt ∧ zi35408.toInt ≤ 3999) → ((0 : Int) ≤ zi35413.toInt ∧ zi35413.toInt ≤ 401) → hp35409 qa900 10 = .int zi35413 → lv_has ls 8 [(0, .ref qa900), (1, .int zi35408)] → PW G cy K ln Ls A hp35409 H → va_S A s.heap H locs → W p l e ({ frames := 2, cells := 0, slots := 0, locals := 49 } : Room) s m ([.ref qa900] : List Value).toArray below meth c H locs 0 0 Q (F0 m 7 ls []) := by
    intro n44254
    induction n44254 with
    | zero =>
      intro hp35409 zi35408 zi35413 H locs ls hm44257 ok35411 F35410 bd35414 bd35415 eq35412 hl hw hS
      exact absurd hm44257 (by omega)
    | succ n44254 ih44255 =>
      intro hp35409 zi35408 zi35413 H locs ls hm44257 ok35411 F35410 bd35414 bd35415 eq35412 hl hw hS
      refine lv_aload_n hx hb dX12_cut_7 rfl (lv_at hl 0 rfl) ?_
      refine p_get (ci := 12) (v := .int zi35413) (C := RX12) (T := TX12) (N := 69) hx hb hT iw_X12 hown hK hw hW kd900 (by decide) rfl rfl 10 (by decide) eq35412 (hT _ tb_1384) (fun _ h9 => h9) dX12_cut_8 ?_
      refine lv_sipush (v := 400) hx hb dX12_cut_11 (by decide) ?_
      refine lv_icmp_gt (tgt := 294) hx hb dX12_cut_14 (by decide) (fun cn44258 => ?_) (fun cn44258 => ?_)
      · skip
        have bd44259 : (401 : Int) ≤ zi35413.toInt ∧ zi35413.toInt ≤ 401 := r_lt_y cn44258 bc_400 bd35415 (by decide) (by decide)
        rw [hQ]
        exact kz_v hx hb hr hlocks hS hp35409 hw ⟨ok35411, (Fr.tr (Fr.put (cq := 13010) (Fr.rf) eh2 kd900 (cd_o (by decide)) (by decide)) F35410 (by decide)), ⟨_, eq35412, b_wid2 bd44259 (by decide) (by decide)⟩⟩ (Nat.le_of_ble_eq_true rfl) (Nat.le_of_ble_eq_true rfl) dX12_cut_294
      · skip
        have bd44260 : (0 : Int) ≤ zi35413.toInt ∧ zi35413.toInt ≤ 400 := r_le_x (Int32.not_lt.mp cn44258) bd35415 bc_400 (by decide) (by decide)
        refine lv_aload_n hx hb dX12_cut_17 rfl (lv_at hl 0 rfl) ?_
        refine lv_iload_n hx hb dX12_cut_18 rfl (lv_at hl 1 rfl) ?_
        refine kq_i hw hS hA (va_runV (As := [.int zi35408]) (rest := []) ⟨hx, hb, hml, hown, hT⟩ (cX12_byteAt_0 l G cy ev K ln Ls hW _ hp35409 ok35411 qa900 zi35408 kd900 (b_wid2 bd35414 (by decide) (by decide))) (cwV 1 hT (good_V tb_1605 tb_1602 tb_1604 tb_49 tb_122) rfl rfl rfl (by decide +kernel) ⟨Nat.le_of_ble_eq_true rfl, Nat.le_of_ble_eq_true rfl⟩) (pool_preV (ci := 12) hK hE hS hA hw hW kd900 (by decide) rfl) rfl rfl hl.1 rfl (lv_room (Nat.le_of_ble_eq_true rfl)) dX12_cut_19 ⟨Nat.le_of_ble_eq_true rfl, Nat.le_of_ble_eq_true rfl⟩) (fun zi44265 hp44261 H locs hq44264 hw hS => ?_)
        obtain ⟨ok44262, F44263, bd44266, hi44267⟩ := hq44264
        obtain rfl : hp35409 = hp44261 := (Fr.nil F44263).symm
        have hw : PW G cy K ln Ls A hp35409 H := hw
        refine lv_istore_n (lv' := [(2, .int zi44265), (0, .ref qa900), (1, .int zi35408)]) hx hb dX12_cut_22 rfl hl (by decide) rfl (fun ls hl => ?_)
        refine lv_iload_n hx hb dX12_cut_23 rfl (lv_at hl 2 rfl) ?_
        refine lv_aload_n hx hb dX12_cut_24 rfl (lv_at hl 1 rfl) ?_
        obtain ⟨zi44269, eq44268, bd44270⟩ := rd_13004 ok35411 kd900
        refine p_get (ci := 12) (v := .int zi44269) (C := RX12) (T := TX12) (N := 69) hx hb hT iw_X12 hown hK hw hW kd900 (by decide) rfl rfl 4 (by decide) eq44268 (hT _ tb_1378) (fun _ h9 => h9) dX12_cut_25 ?_
        refine lv_icmp_lt (tgt := 43) hx hb dX12_cut_28 (by decide) (fun cn44271 => ?_) (fun cn44271 => ?_)
        · skip
          have tf44272 : zi35408.toInt < zi44269.toInt := (fa_lt _ _).mp cn44271
          have bd44273 : (0 : Int) ≤ zi35408.toInt ∧ zi35408.toInt ≤ 1999 := r_lt_x cn44271 bd35414 bd44270 (by decide) (by decide)
          have bd44274 : (1 : Int) ≤ zi44269.toInt ∧ zi44269.toInt ≤ 2000 := r_lt_y cn44271 bd35414 bd44270 (by decide) (by decide)
          refine lv_iload_n hx hb dX12_cut_43 rfl (lv_at hl 0 rfl) ?_
          refine lv_bipush (v := 9) hx hb dX12_cut_44 (by decide) ?_
          have jn46475 : ∀ (hp46468 : Nat → Nat → Value) (zi46467 : Int32) (zi46472 : Int32) (H : Heap) (locs : List Loc) (ls : Array Slot), Ok K hp46468 → Fr [13010, 62000, 63000, 64000, 65000] K hp35409 hp46468 → ((0 : Int) ≤ zi46467.toInt ∧ zi46467.toInt ≤ 3999) → ((0 : Int) ≤ zi46472.toInt ∧ zi46472.toInt ≤ 401) → hp46468 qa900 10 = .int zi46472 → lv_has ls 8 [(0, .ref qa900), (1, .int zi46467)] → PW G cy K ln Ls A hp46468 H → va_S A s.heap H locs → W p l e ({ frames := 2, cells := 0, slots := 0, locals := 49 } : Room) s m ([.ref qa900] : List Value).toArray below meth c H locs 0 0 Q (F0 m 291 ls []) := by
            intro hp46468 zi46467 zi46472 H locs ls ok46470 F46469 bd46473 bd46474 eq46471 hl hw hS
            refine lv_goto (tgt := 7) hx hb dX12_cut_291 (by decide) ?_
            exact ih44255 hp46468 zi46467 zi46472 _ _ ls (by have := hm44257; omega) ok46470 (Fr.tr (Fr.tr (Fr.rf) F35410 (by decide)) F46469 (by decide)) (b_wid2 bd46473 (by decide) (by decide)) (b_wid2 bd46474 (by decide) (by decide)) eq46471 (lv_sub hl [0, 1] rfl) hw hS
          refine lv_icmp_eq (tgt := 67) hx hb dX12_cut_46 (by decide) (fun cn44275 => ?_) (fun cn44275 => ?_)
          · skip
            have bd46476 : (9 : Int) ≤ zi44265.toInt ∧ zi44265.toInt ≤ 9 := r_eq_x cn44275 bd44266 bc_9 (by decide) (by decide)
            obtain ⟨zi46477, ea46478⟩ : ∃ z : Int32, z = zi35408 + 1 := ⟨_, rfl⟩
            have bd46479 : (1 : Int) ≤ zi46477.toInt ∧ zi46477.toInt ≤ 2000 := b_iadd ea46478 bd44273 bc_1 (by decide) (by decide) (by decide) (by decide)
            have qe46480 : zi46477.toInt = (zi35408 : Int32).toInt + (1 : Int32).toInt := e_iadd ea46478 bd44273 bc_1 (by decide) (by decide)
            have qe46481 : zi46477.toInt = zi35408.toInt + 1 := by have ha : (1 : Int32).toInt = 1 := (by decide); rw [ha] at qe46480; exact qe46480
            refine lv_iinc (v := zi46477) (lv' := [(1, .int zi46477), (2, .int zi44265), (0, .ref qa900)]) hx hb dX12_cut_67 hl (k := 2) rfl ea46478.symm (by decide) rfl (fun ls hl => ?_)
            refine lv_goto (tgt := 291) hx hb dX12_cut_70 (by decide) ?_
            exact jn46475 hp35409 zi46477 zi35413 _ _ ls ok35411 (Fr.rf) (b_wid2 bd46479 (by decide) (by decide)) (b_wid2 bd44260 (by decide) (by decide)) eq35412 (lv_sub hl [2, 0] rfl) hw hS
          · skip
            have tf46482 : (zi44265 : Int32).toInt ≠ (9 : Int32).toInt := fun e => cn44275 (Int32.toInt_inj.mp e)
            have := toi bc_9
            refine lv_iload_n hx hb dX12_cut_49 rfl (lv_at hl 0 rfl) ?_
            refine lv_bipush (v := 10) hx hb dX12_cut_50 (by decide) ?_
            refine lv_icmp_eq (tgt := 67) hx hb dX12_cut_52 (by decide) (fun cn46483 => ?_) (fun cn46483 => ?_)
            · skip
              have bd46484 : (10 : Int) ≤ zi44265.toInt ∧ zi44265.toInt ≤ 10 := r_eq_x cn46483 bd44266 bc_10 (by decide) (by decide)
              obtain ⟨zi46485, ea46486⟩ : ∃ z : Int32, z = zi35408 + 1 := ⟨_, rfl⟩
              have bd46487 : (1 : Int) ≤ zi46485.toInt ∧ zi46485.toInt ≤ 2000 := b_iadd ea46486 bd44273 bc_1 (by decide) (by decide) (by decide) (by decide)
              have qe46488 : zi46485.toInt = (zi35408 : Int32).toInt + (1 : Int32).toInt := e_iadd ea46486 bd44273 bc_1 (by decide) (by decide)
              have qe46489 : zi46485.toInt = zi35408.toInt + 1 := by have ha : (1 : Int32).toInt = 1 := (by decide); rw [ha] at qe46488; exact qe46488
              refine lv_iinc (v := zi46485) (lv' := [(1, .int zi46485), (2, .int zi44265), (0, .ref qa900)]) hx hb dX12_cut_67 hl (k := 2) rfl ea46486.symm (by decide) rfl (fun ls hl => ?_)
              refine lv_goto (tgt := 291) hx hb dX12_cut_70 (by decide) ?_
              exact jn46475 hp35409 zi46485 zi35413 _ _ ls ok35411 (Fr.rf) (b_wid2 bd46487 (by decide) (by decide)) (b_wid2 bd44260 (by decide) (by decide)) eq35412 (lv_sub hl [2, 0] rfl) hw hS
            · skip
              have tf46490 : (zi44265 : Int32).toInt ≠ (10 : Int32).toInt := fun e => cn46483 (Int32.toInt_inj.mp e)
              have := toi bc_10
              refine lv_iload_n hx hb dX12_cut_55 rfl (lv_at hl 0 rfl) ?_
              refine lv_bipush (v := 13) hx hb dX12_cut_56 (by decide) ?_
              refine lv_icmp_eq (tgt := 67) hx hb dX12_cut_58 (by decide) (fun cn46491 => ?_) (fun cn46491 => ?_)
              · skip
                have bd46492 : (13 : Int) ≤ zi44265.toInt ∧ zi44265.toInt ≤ 13 := r_eq_x cn46491 bd44266 bc_13 (by decide) (by decide)
                obtain ⟨zi46493, ea46494⟩ : ∃ z : Int32, z = zi35408 + 1 := ⟨_, rfl⟩
                have bd46495 : (1 : Int) ≤ zi46493.toInt ∧ zi46493.toInt ≤ 2000 := b_iadd ea46494 bd44273 bc_1 (by decide) (by decide) (by decide) (by decide)
                have qe46496 : zi46493.toInt = (zi35408 : Int32).toInt + (1 : Int32).toInt := e_iadd ea46494 bd44273 bc_1 (by decide) (by decide)
                have qe46497 : zi46493.toInt = zi35408.toInt + 1 := by have ha : (1 : Int32).toInt = 1 := (by decide); rw [ha] at qe46496; exact qe46496
                refine lv_iinc (v := zi46493) (lv' := [(1, .int zi46493), (2, .int zi44265), (0, .ref qa900)]) hx hb dX12_cut_67 hl (k := 2) rfl ea46494.symm (by decide) rfl (fun ls hl => ?_)
                refine lv_goto (tgt := 291) hx hb dX12_cut_70 (by decide) ?_
                exact jn46475 hp35409 zi46493 zi35413 _ _ ls ok35411 (Fr.rf) (b_wid2 bd46495 (by decide) (by decide)) (b_wid2 bd44260 (by decide) (by decide)) eq35412 (lv_sub hl [2, 0] rfl) hw hS
              · skip
                have tf46498 : (zi44265 : Int32).toInt ≠ (13 : Int32).toInt := fun e => cn46491 (Int32.toInt_inj.mp e)
                have := toi bc_13
                refine lv_iload_n hx hb dX12_cut_61 rfl (lv_at hl 0 rfl) ?_
                refine lv_bipush (v := 32) hx hb dX12_cut_62 (by decide) ?_
                refine lv_icmp_ne (tgt := 73) hx hb dX12_cut_64 (by decide) (fun cn46499 => ?_) (fun cn46499 => ?_)
                · skip
                  have tf46500 : (zi44265 : Int32).toInt ≠ (32 : Int32).toInt := fun e => cn46499 (Int32.toInt_inj.mp e)
                  have := toi bc_32
                  refine lv_iload_n hx hb dX12_cut_73 rfl (lv_at hl 0 rfl) ?_
                  refine kq_i hw hS hA (va_runS (As := [.int zi44265]) (rest := []) ⟨hx, hb, hml, hown, hT⟩ (cX12_isLetter_0 l G cy ev K ln Ls hW _ hp35409 ok35411 zi44265) (va_cwS 1 hT (good_S tb_1612 tb_1610 tb_1611 tb_122) rfl rfl rfl (by decide +kernel) ⟨Nat.le_of_ble_eq_true rfl, Nat.le_of_ble_eq_true rfl⟩) (PB2.preS hK hE hS hA hw) rfl rfl hl.1 rfl (lv_room (Nat.le_of_ble_eq_true rfl)) dX12_cut_74 ⟨Nat.le_of_ble_eq_true rfl, Nat.le_of_ble_eq_true rfl⟩) (fun zi46505 hp46501 H locs hq46504 hw hS => ?_)
                  obtain ⟨ok46502, F46503, bd46506, hc46507⟩ := hq46504
                  obtain rfl : hp35409 = hp46501 := (Fr.nil F46503).symm
                  have hw : PW G cy K ln Ls A hp35409 H := hw
                  rcases b01 bd46506 with cn46508 | cn46508
                  · skip
                    subst cn46508
                    refine lv_if_eq (tgt := 196) hx hb dX12_cut_77 (by decide) (fun _ => ?_) (fun c => absurd (d_eq bc_0 bc_0) c)
                    refine lv_iload_n hx hb dX12_cut_196 rfl (lv_at hl 0 rfl) ?_
                    refine kq_i hw hS hA (va_runS (As := [.int zi44265]) (rest := []) ⟨hx, hb, hml, hown, hT⟩ (cX12_isDigit_0 l G cy ev K ln Ls hW _ hp35409 ok35411 zi44265) (va_cwS 1 hT (good_S tb_1615 tb_1613 tb_1614 tb_122) rfl rfl rfl (by decide +kernel) ⟨Nat.le_of_ble_eq_true rfl, Nat.le_of_ble_eq_true rfl⟩) (PB2.preS hK hE hS hA hw) rfl rfl hl.1 rfl (lv_room (Nat.le_of_ble_eq_true rfl)) dX12_cut_197 ⟨Nat.le_of_ble_eq_true rfl, Nat.le_of_ble_eq_true rfl⟩) (fun zi46513 hp46509 H locs hq46512 hw hS => ?_)
                    obtain ⟨ok46510, F46511, bd46514, hc46515⟩ := hq46512
                    obtain rfl : hp35409 = hp46509 := (Fr.nil F46511).symm
                    have hw : PW G cy K ln Ls A hp35409 H := hw
                    rcases b01 bd46514 with cn46516 | cn46516
                    · skip
                      subst cn46516
                      refine lv_if_eq (tgt := 275) hx hb dX12_cut_200 (by decide) (fun _ => ?_) (fun c => absurd (d_eq bc_0 bc_0) c)
                      refine lv_iload_n hx hb dX12_cut_275 rfl (lv_at hl 2 rfl) ?_
                      refine lv_aload_n hx hb dX12_cut_276 rfl (lv_at hl 1 rfl) ?_
                      refine lv_iload_n hx hb dX12_cut_277 rfl (lv_at hl 2 rfl) ?_
                      refine lv_iload_n hx hb dX12_cut_278 rfl (lv_at hl 0 rfl) ?_
                      refine lv_aload_n hx hb dX12_cut_279 rfl (lv_at hl 1 rfl) ?_
                      refine lv_iload_n hx hb dX12_cut_280 rfl (lv_at hl 2 rfl) ?_
                      refine lv_iconst (v := 1) hx hb dX12_cut_281 (by decide) ?_
                      refine lv_iadd hx hb dX12_cut_282 (lv_topi (fun zi46517 ea46518 => ?_))
                      have bd46519 : (1 : Int) ≤ zi46517.toInt ∧ zi46517.toInt ≤ 2000 := b_iadd ea46518 bd44273 bc_1 (by decide) (by decide) (by decide) (by decide)
                      have qe46520 : zi46517.toInt = (zi35408 : Int32).toInt + (1 : Int32).toInt := e_iadd ea46518 bd44273 bc_1 (by decide) (by decide)
                      have qe46521 : zi46517.toInt = zi35408.toInt + 1 := by have ha : (1 : Int32).toInt = 1 := (by decide); rw [ha] at qe46520; exact qe46520
                      refine kq_i hw hS hA (va_runV (As := [.int zi46517]) (rest := [.int zi44265, .int zi35408, .ref qa900, .int zi35408]) ⟨hx, hb, hml, hown, hT⟩ (cX12_byteAt_0 l G cy ev K ln Ls hW _ hp35409 ok35411 qa900 zi46517 kd900 (b_wid2 bd46519 (by decide) (by decide))) (cwV 1 hT (good_V tb_1605 tb_1602 tb_1604 tb_49 tb_122) rfl rfl rfl (by decide +kernel) ⟨Nat.le_of_ble_eq_true rfl, Nat.le_of_ble_eq_true rfl⟩) (pool_preV (ci := 12) hK hE hS hA hw hW kd900 (by decide) rfl) rfl rfl hl.1 rfl (lv_room (Nat.le_of_ble_eq_true rfl)) dX12_cut_283 ⟨Nat.le_of_ble_eq_true rfl, Nat.le_of_ble_eq_true rfl⟩) (fun zi46526 hp46522 H locs hq46525 hw hS => ?_)
                      obtain ⟨ok46523, F46524, bd46527, hi46528⟩ := hq46525
                      obtain rfl : hp35409 = hp46522 := (Fr.nil F46524).symm
                      have hw : PW G cy K ln Ls A hp35409 H := hw
                      refine kq_i hw hS hA (va_runV (As := [.int zi35408, .int zi44265, .int zi46526]) (rest := [.int zi35408]) ⟨hx, hb, hml, hown, hT⟩ (cX12_sign_5 l G cy ev K ln Ls hW _ hp35409 ok35411 qa900 zi35408 zi44265 zi46526 zi35413 kd900 eq35412 (b_wid2 bd44260 (by decide) (by decide))) (cwV 3 hT (good_V tb_1619 tb_1616 tb_1618 tb_51 tb_122) rfl rfl rfl (by decide +kernel) ⟨Nat.le_of_ble_eq_true rfl, Nat.le_of_ble_eq_true rfl⟩) (pool_preV (ci := 12) hK hE hS hA hw hW kd900 (by decide) rfl) rfl rfl hl.1 rfl (lv_room (Nat.le_of_ble_eq_true rfl)) dX12_cut_286 ⟨Nat.le_of_ble_eq_true rfl, Nat.le_of_ble_eq_true rfl⟩) (fun zi46533 hp46529 H locs hq46532 hw hS => ?_)
                      obtain ⟨ok46530, F46531, bd46534, ⟨zi46535, eq46536, bd46537⟩, rh46538⟩ := hq46532
                      have hw : PW G cy K ln Ls A hp46529 H := hw
                      simp only [gi_of eq35412, gi_of eq46536] at rh46538
                      refine lv_iadd hx hb dX12_cut_289 (lv_topi (fun zi46539 ea46540 => ?_))
                      have bd46541 : (1 : Int) ≤ zi46539.toInt ∧ zi46539.toInt ≤ 2000 := b_iadd ea46540 bd44273 bd46534 (by decide) (by decide) (by decide) (by decide)
                      have qe46542 : zi46539.toInt = zi35408.toInt + zi46533.toInt := e_iadd ea46540 bd44273 bd46534 (by decide) (by decide)
                      refine lv_istore_n (lv' := [(1, .int zi46539), (2, .int zi44265), (0, .ref qa900)]) hx hb dX12_cut_290 rfl hl (by decide) rfl (fun ls hl => ?_)
                      exact jn46475 hp46529 zi46539 zi46535 _ _ ls ok46530 (Fr.tr (Fr.rf) F46531 (by decide)) (b_wid2 bd46541 (by decide) (by decide)) (b_wid2 bd46537 (by decide) (by decide)) eq46536 (lv_sub hl [2, 0] rfl) hw hS
                    · skip
                      subst cn46516
                      have bd46543 : (48 : Int) ≤ zi44265.toInt ∧ zi44265.toInt ≤ 57 := b_meet bd44266 (hc46515 rfl) (by decide) (by decide)
                      refine lv_if_eq (tgt := 275) hx hb dX12_cut_200 (by decide) (fun c => absurd c (d_ne bc_1 bc_0 (by decide))) (fun _ => ?_)
                      refine lv_iconst (v := 0) hx hb dX12_cut_203 (by decide) ?_
                      refine lv_istore_n (lv' := [(3, .int 0), (2, .int zi44265), (0, .ref qa900), (1, .int zi35408)]) hx hb dX12_cut_204 rfl hl (by decide) rfl (fun ls hl => ?_)
                      refine lv_iconst (v := 0) hx hb dX12_cut_205 (by decide) ?_
                      refine lv_istore (lv' := [(4, .int 0), (3, .int 0), (2, .int zi44265), (0, .ref qa900), (1, .int zi35408)]) hx hb dX12_cut_206 hl (by decide) rfl (fun ls hl => ?_)
                      have lp47173 : ∀ (n47171 : Nat) (zi47032 : Int32) (zi47033 : Int32) (H : Heap) (locs : List Loc) (ls : Array Slot), 2000 - zi47032.toInt < (n47171 : Int) → ((0 : Int) ≤ zi47032.toInt ∧ zi47032.toInt ≤ 2000) → lv_has ls 8 [(0, .ref qa900), (1, .int zi35408), (3, .int zi47032), (4, .int zi47033)] → PW G cy K ln Ls A hp35409 H → va_S A s.heap H locs → W p l e ({ frames := 2, cells := 0, slots := 0, locals := 49 } : Room) s m ([.ref qa900] : List Value).toArray below meth c H locs 0 0 Q (F0 m 208 ls []) := by
                        intro n47171
                        induction n47171 with
                        | zero =>
                          intro zi47032 zi47033 H locs ls hm47174 bd47034 hl hw hS
                          exact absurd hm47174 (by have := bd47034; omega)
                        | succ n47171 ih47172 =>
                          intro zi47032 zi47033 H locs ls hm47174 bd47034 hl hw hS
                          refine lv_aload_n hx hb dX12_cut_208 rfl (lv_at hl 0 rfl) ?_
                          refine lv_iload_n hx hb dX12_cut_209 rfl (lv_at hl 1 rfl) ?_
                          refine lv_iload_n hx hb dX12_cut_210 rfl (lv_at hl 2 rfl) ?_
                          refine lv_iadd hx hb dX12_cut_211 (lv_topi (fun zi47175 ea47176 => ?_))
                          have bd47177 : (0 : Int) ≤ zi47175.toInt ∧ zi47175.toInt ≤ 3999 := b_iadd ea47176 bd44273 bd47034 (by decide) (by decide) (by decide) (by decide)
                          have qe47178 : zi47175.toInt = zi35408.toInt + zi47032.toInt := e_iadd ea47176 bd44273 bd47034 (by decide) (by decide)
                          refine kq_i hw hS hA (va_runV (As := [.int zi47175]) (rest := []) ⟨hx, hb, hml, hown, hT⟩ (cX12_byteAt_0 l G cy ev K ln Ls hW _ hp35409 ok35411 qa900 zi47175 kd900 (b_wid2 bd47177 (by decide) (by decide))) (cwV 1 hT (good_V tb_1605 tb_1602 tb_1604 tb_49 tb_122) rfl rfl rfl (by decide +kernel) ⟨Nat.le_of_ble_eq_true rfl, Nat.le_of_ble_eq_true rfl⟩) (pool_preV (ci := 12) hK hE hS hA hw hW kd900 (by decide) rfl) rfl rfl hl.1 rfl (lv_room (Nat.le_of_ble_eq_true rfl)) dX12_cut_212 ⟨Nat.le_of_ble_eq_true rfl, Nat.le_of_ble_eq_true rfl⟩) (fun zi47183 hp47179 H locs hq47182 hw hS => ?_)
                          obtain ⟨ok47180, F47181, bd47184, hi47185⟩ := hq47182
                          obtain rfl : hp35409 = hp47179 := (Fr.nil F47181).symm
                          have hw : PW G cy K ln Ls A hp35409 H := hw
                          refine kq_i hw hS hA (va_runS (As := [.int zi47183]) (rest := []) ⟨hx, hb, hml, hown, hT⟩ (cX12_isDigit_0 l G cy ev K ln Ls hW _ hp35409 ok35411 zi47183) (va_cwS 1 hT (good_S tb_1615 tb_1613 tb_1614 tb_122) rfl rfl rfl (by decide +kernel) ⟨Nat.le_of_ble_eq_true rfl, Nat.le_of_ble_eq_true rfl⟩) (PB2.preS hK hE hS hA hw) rfl rfl hl.1 rfl (lv_room (Nat.le_of_ble_eq_true rfl)) dX12_cut_215 ⟨Nat.le_of_ble_eq_true rfl, Nat.le_of_ble_eq_true rfl⟩) (fun zi47190 hp47186 H locs hq47189 hw hS => ?_)
                          obtain ⟨ok47187, F47188, bd47191, hc47192⟩ := hq47189
                          obtain rfl : hp35409 = hp47186 := (Fr.nil F47188).symm
                          have hw : PW G cy K ln Ls A hp35409 H := hw
                          rcases b01 bd47191 with cn47193 | cn47193
                          · skip
                            subst cn47193
                            refine lv_if_eq (tgt := 250) hx hb dX12_cut_218 (by decide) (fun _ => ?_) (fun c => absurd (d_eq bc_0 bc_0) c)
                            refine lv_aload_n hx hb dX12_cut_250 rfl (lv_at hl 0 rfl) ?_
                            refine lv_iload_n hx hb dX12_cut_251 rfl (lv_at hl 2 rfl) ?_
                            refine lv_iconst (v := 4) hx hb dX12_cut_252 (by decide) ?_
                            have jn47248 : ∀ (zi47246 : Int32) (H : Heap) (locs : List Loc) (ls : Array Slot), ((2 : Int) ≤ zi47246.toInt ∧ zi47246.toInt ≤ 3) → lv_has ls 8 [(0, .ref qa900), (1, .int zi35408), (3, .int zi47032), (4, .int zi47033)] → PW G cy K ln Ls A hp35409 H → va_S A s.heap H locs → W p l e ({ frames := 2, cells := 0, slots := 0, locals := 49 } : Room) s m ([.ref qa900] : List Value).toArray below meth c H locs 0 0 Q (F0 m 261 ls [.int zi47246, .ref qa900]) := by
                              intro zi47246 H locs ls bd47247 hl hw hS
                              refine lv_iload_n hx hb dX12_cut_261 rfl (lv_at hl 1 rfl) ?_
                              refine lv_iload hx hb dX12_cut_262 (lv_at hl 3 rfl) ?_
                              refine lv_lconst (v := 0) hx hb dX12_cut_264 (by decide) ?_
                              refine kq_v hw hS hA (va_runV (As := [.int zi47246, .int zi35408, .int zi47033, .long 0]) (rest := []) ⟨hx, hb, hml, hown, hT⟩ (cX12_token_5 l G cy ev K ln Ls hW _ hp35409 ok35411 qa900 zi47246 zi35408 zi47033 0 zi35413 kd900 eq35412 (b_wid2 bd44260 (by decide) (by decide))) (cwV 4 hT (good_V tb_1609 tb_1606 tb_1608 tb_50 tb_122) rfl rfl rfl (by decide +kernel) ⟨Nat.le_of_ble_eq_true rfl, Nat.le_of_ble_eq_true rfl⟩) (pool_preV (ci := 12) hK hE hS hA hw hW kd900 (by decide) rfl) rfl rfl hl.1 rfl (lv_room (Nat.le_of_ble_eq_true rfl)) dX12_cut_265 ⟨Nat.le_of_ble_eq_true rfl, Nat.le_of_ble_eq_true rfl⟩) (fun hp47249 H locs hq47252 hw hS => ?_)
                              obtain ⟨ok47250, F47251, ⟨zi47254, eq47255, bd47256⟩, rh47257⟩ := hq47252
                              have hw : PW G cy K ln Ls A hp47249 H := hw
                              simp only [gi_of eq35412, gi_of eq47255] at rh47257
                              refine lv_iload_n hx hb dX12_cut_268 rfl (lv_at hl 1 rfl) ?_
                              refine lv_iload_n hx hb dX12_cut_269 rfl (lv_at hl 2 rfl) ?_
                              refine lv_iadd hx hb dX12_cut_270 (lv_topi (fun zi47258 ea47259 => ?_))
                              have bd47260 : (0 : Int) ≤ zi47258.toInt ∧ zi47258.toInt ≤ 3999 := b_iadd ea47259 bd44273 bd47034 (by decide) (by decide) (by decide) (by decide)
                              have qe47261 : zi47258.toInt = zi35408.toInt + zi47032.toInt := e_iadd ea47259 bd44273 bd47034 (by decide) (by decide)
                              refine lv_istore_n (lv' := [(1, .int zi47258), (0, .ref qa900), (3, .int zi47032), (4, .int zi47033)]) hx hb dX12_cut_271 rfl hl (by decide) rfl (fun ls hl => ?_)
                              refine lv_goto (tgt := 291) hx hb dX12_cut_272 (by decide) ?_
                              exact jn46475 hp47249 zi47258 zi47254 _ _ ls ok47250 (Fr.tr (Fr.rf) F47251 (by decide)) (b_wid2 bd47260 (by decide) (by decide)) (b_wid2 bd47256 (by decide) (by decide)) eq47255 (lv_sub hl [1, 0] rfl) hw hS
                            refine lv_icmp_le (tgt := 260) hx hb dX12_cut_253 (by decide) (fun cn47243 => ?_) (fun cn47243 => ?_)
                            · skip
                              have bd47262 : (0 : Int) ≤ zi47032.toInt ∧ zi47032.toInt ≤ 4 := r_le_x cn47243 bd47034 bc_4 (by decide) (by decide)
                              refine lv_iconst (v := 2) hx hb dX12_cut_260 (by decide) ?_
                              exact jn47248 2 _ _ ls (b_wid2 bc_2 (by decide) (by decide)) (lv_sub hl [0, 1, 2, 3] rfl) hw hS
                            · skip
                              have bd47263 : (5 : Int) ≤ zi47032.toInt ∧ zi47032.toInt ≤ 2000 := r_lt_y (Int32.not_le.mp cn47243) bc_4 bd47034 (by decide) (by decide)
                              refine lv_iconst (v := 3) hx hb dX12_cut_256 (by decide) ?_
                              refine lv_goto (tgt := 261) hx hb dX12_cut_257 (by decide) ?_
                              exact jn47248 3 _ _ ls (b_wid2 bc_3 (by decide) (by decide)) (lv_sub hl [0, 1, 2, 3] rfl) hw hS
                          · skip
                            subst cn47193
                            have bd47264 : (48 : Int) ≤ zi47183.toInt ∧ zi47183.toInt ≤ 57 := b_meet bd47184 (hc47192 rfl) (by decide) (by decide)
                            have bd47265 : (0 : Int) ≤ zi47175.toInt ∧ zi47175.toInt ≤ 1999 := b_meet bd47177 (hi47185 (by have := bd47264; omega)) (by decide) (by decide)
                            have bd47266 : (0 : Int) ≤ zi47032.toInt ∧ zi47032.toInt ≤ 1999 := (by have := qe47178; have := bd47265; have := bd44273; have := bd47034; omega)
                            refine lv_if_eq (tgt := 250) hx hb dX12_cut_218 (by decide) (fun c => absurd c (d_ne bc_1 bc_0 (by decide))) (fun _ => ?_)
                            refine lv_iload_n hx hb dX12_cut_221 rfl (lv_at hl 2 rfl) ?_
                            refine lv_iconst (v := 4) hx hb dX12_cut_222 (by decide) ?_
                            have jn47288 : ∀ (zi47287 : Int32) (H : Heap) (locs : List Loc) (ls : Array Slot), lv_has ls 8 [(0, .ref qa900), (1, .int zi35408), (3, .int zi47032), (4, .int zi47287)] → PW G cy K ln Ls A hp35409 H → va_S A s.heap H locs → W p l e ({ frames := 2, cells := 0, slots := 0, locals := 49 } : Room) s m ([.ref qa900] : List Value).toArray below meth c H locs 0 0 Q (F0 m 244 ls []) := by
                              intro zi47287 H locs ls hl hw hS
                              obtain ⟨zi47289, ea47290⟩ : ∃ z : Int32, z = zi47032 + 1 := ⟨_, rfl⟩
                              have bd47291 : (1 : Int) ≤ zi47289.toInt ∧ zi47289.toInt ≤ 2000 := b_iadd ea47290 bd47266 bc_1 (by decide) (by decide) (by decide) (by decide)
                              have qe47292 : zi47289.toInt = (zi47032 : Int32).toInt + (1 : Int32).toInt := e_iadd ea47290 bd47266 bc_1 (by decide) (by decide)
                              have qe47293 : zi47289.toInt = zi47032.toInt + 1 := by have ha : (1 : Int32).toInt = 1 := (by decide); rw [ha] at qe47292; exact qe47292
                              refine lv_iinc (v := zi47289) (lv' := [(3, .int zi47289), (0, .ref qa900), (1, .int zi35408), (4, .int zi47287)]) hx hb dX12_cut_244 hl (k := 2) rfl ea47290.symm (by decide) rfl (fun ls hl => ?_)
                              refine lv_goto (tgt := 208) hx hb dX12_cut_247 (by decide) ?_
                              exact ih47172 zi47289 zi47287 _ _ ls (by have := hm47174; have := qe47293; omega) (b_wid2 bd47291 (by decide) (by decide)) (lv_sub hl [1, 2, 0, 3] rfl) hw hS
                            refine lv_icmp_ge (tgt := 244) hx hb dX12_cut_223 (by decide) (fun cn47267 => ?_) (fun cn47267 => ?_)
                            · skip
                              have bd47294 : (4 : Int) ≤ zi47032.toInt ∧ zi47032.toInt ≤ 1999 := r_le_y cn47267 bc_4 bd47266 (by decide) (by decide)
                              exact jn47288 zi47033 _ _ ls (lv_sub hl [0, 1, 2, 3] rfl) hw hS
                            · skip
                              have bd47295 : (0 : Int) ≤ zi47032.toInt ∧ zi47032.toInt ≤ 3 := r_lt_x (Int32.not_le.mp cn47267) bd47266 bc_4 (by decide) (by decide)
                              refine lv_bipush (v := 10) hx hb dX12_cut_226 (by decide) ?_
                              refine lv_iload hx hb dX12_cut_228 (lv_at hl 3 rfl) ?_
                              refine lv_imul hx hb dX12_cut_230 (lv_topi (fun zi47296 ea47297 => ?_))
                              refine lv_aload_n hx hb dX12_cut_231 rfl (lv_at hl 0 rfl) ?_
                              refine lv_iload_n hx hb dX12_cut_232 rfl (lv_at hl 1 rfl) ?_
                              refine lv_iload_n hx hb dX12_cut_233 rfl (lv_at hl 2 rfl) ?_
                              refine lv_iadd hx hb dX12_cut_234 (lv_topi (fun zi47298 ea47299 => ?_))
                              have bd47300 : (0 : Int) ≤ zi47298.toInt ∧ zi47298.toInt ≤ 2002 := b_iadd ea47299 bd44273 bd47295 (by decide) (by decide) (by decide) (by decide)
                              have qe47301 : zi47298.toInt = zi35408.toInt + zi47032.toInt := e_iadd ea47299 bd44273 bd47295 (by decide) (by decide)
                              refine kq_i hw hS hA (va_runV (As := [.int zi47298]) (rest := [.int zi47296]) ⟨hx, hb, hml, hown, hT⟩ (cX12_byteAt_0 l G cy ev K ln Ls hW _ hp35409 ok35411 qa900 zi47298 kd900 (b_wid2 bd47300 (by decide) (by decide))) (cwV 1 hT (good_V tb_1605 tb_1602 tb_1604 tb_49 tb_122) rfl rfl rfl (by decide +kernel) ⟨Nat.le_of_ble_eq_true rfl, Nat.le_of_ble_eq_true rfl⟩) (pool_preV (ci := 12) hK hE hS hA hw hW kd900 (by decide) rfl) rfl rfl hl.1 rfl (lv_room (Nat.le_of_ble_eq_true rfl)) dX12_cut_235 ⟨Nat.le_of_ble_eq_true rfl, Nat.le_of_ble_eq_true rfl⟩) (fun zi47306 hp47302 H locs hq47305 hw hS => ?_)
                              obtain ⟨ok47303, F47304, bd47307, hi47308⟩ := hq47305
                              obtain rfl : hp35409 = hp47302 := (Fr.nil F47304).symm
                              have hw : PW G cy K ln Ls A hp35409 H := hw
                              refine lv_iadd hx hb dX12_cut_238 (lv_topi (fun zi47309 ea47310 => ?_))
                              refine lv_bipush (v := 48) hx hb dX12_cut_239 (by decide) ?_
                              refine lv_isub hx hb dX12_cut_241 (lv_topi (fun zi47311 ea47312 => ?_))
                              refine lv_istore (lv' := [(4, .int zi47311), (0, .ref qa900), (1, .int zi35408), (3, .int zi47032)]) hx hb dX12_cut_242 hl (by decide) rfl (fun ls hl => ?_)
                              exact jn47288 zi47311 _ _ ls (lv_sub hl [1, 2, 3, 0] rfl) hw hS
                      exact lp47173 _ 0 0 _ _ ls (lp_in _) (b_wid2 bc_0 (by decide) (by decide)) (lv_sub hl [3, 4, 1, 0] rfl) hw hS
                  · skip
                    subst cn46508
                    have bd47313 : (97 : Int) ≤ zi44265.toInt ∧ zi44265.toInt ≤ 122 := b_meet bd44266 (hc46507 rfl) (by decide) (by decide)
                    refine lv_if_eq (tgt := 196) hx hb dX12_cut_77 (by decide) (fun c => absurd c (d_ne bc_1 bc_0 (by decide))) (fun _ => ?_)
                    refine lv_iconst (v := 0) hx hb dX12_cut_80 (by decide) ?_
                    refine lv_istore_n (lv' := [(3, .int 0), (2, .int zi44265), (0, .ref qa900), (1, .int zi35408)]) hx hb dX12_cut_81 rfl hl (by decide) rfl (fun ls hl => ?_)
                    refine lv_lconst (v := 0) hx hb dX12_cut_82 (by decide) ?_
                    refine lv_lstore (lv' := [(4, .long 0), (3, .int 0), (2, .int zi44265), (0, .ref qa900), (1, .int zi35408)]) hx hb dX12_cut_83 hl (by decide) rfl (fun ls hl => ?_)
                    have lp47921 : ∀ (n47919 : Nat) (zi47784 : Int32) (wl47785 : Int64) (H : Heap) (locs : List Loc) (ls : Array Slot), 2000 - zi47784.toInt < (n47919 : Int) → ((0 : Int) ≤ zi47784.toInt ∧ zi47784.toInt ≤ 2000) → lv_has ls 8 [(0, .ref qa900), (1, .int zi35408), (3, .int zi47784), (4, .long wl47785)] → PW G cy K ln Ls A hp35409 H → va_S A s.heap H locs → W p l e ({ frames := 2, cells := 0, slots := 0, locals := 49 } : Room) s m ([.ref qa900] : List Value).toArray below meth c H locs 0 0 Q (F0 m 85 ls []) := by
                      intro n47919
                      induction n47919 with
                      | zero =>
                        intro zi47784 wl47785 H locs ls hm47922 bd47786 hl hw hS
                        exact absurd hm47922 (by have := bd47786; omega)
                      | succ n47919 ih47920 =>
                        intro zi47784 wl47785 H locs ls hm47922 bd47786 hl hw hS
                        refine lv_aload_n hx hb dX12_cut_85 rfl (lv_at hl 0 rfl) ?_
                        refine lv_iload_n hx hb dX12_cut_86 rfl (lv_at hl 1 rfl) ?_
                        refine lv_iload_n hx hb dX12_cut_87 rfl (lv_at hl 2 rfl) ?_
                        refine lv_iadd hx hb dX12_cut_88 (lv_topi (fun zi47923 ea47924 => ?_))
                        have bd47925 : (0 : Int) ≤ zi47923.toInt ∧ zi47923.toInt ≤ 3999 := b_iadd ea47924 bd44273 bd47786 (by decide) (by decide) (by decide) (by decide)
                        have qe47926 : zi47923.toInt = zi35408.toInt + zi47784.toInt := e_iadd ea47924 bd44273 bd47786 (by decide) (by decide)
                        refine kq_i hw hS hA (va_runV (As := [.int zi47923]) (rest := []) ⟨hx, hb, hml, hown, hT⟩ (cX12_byteAt_0 l G cy ev K ln Ls hW _ hp35409 ok35411 qa900 zi47923 kd900 (b_wid2 bd47925 (by decide) (by decide))) (cwV 1 hT (good_V tb_1605 tb_1602 tb_1604 tb_49 tb_122) rfl rfl rfl (by decide +kernel) ⟨Nat.le_of_ble_eq_true rfl, Nat.le_of_ble_eq_true rfl⟩) (pool_preV (ci := 12) hK hE hS hA hw hW kd900 (by decide) rfl) rfl rfl hl.1 rfl (lv_room (Nat.le_of_ble_eq_true rfl)) dX12_cut_89 ⟨Nat.le_of_ble_eq_true rfl, Nat.le_of_ble_eq_true rfl⟩) (fun zi47931 hp47927 H locs hq47930 hw hS => ?_)
                        obtain ⟨ok47928, F47929, bd47932, hi47933⟩ := hq47930
                        obtain rfl : hp35409 = hp47927 := (Fr.nil F47929).symm
                        have hw : PW G cy K ln Ls A hp35409 H := hw
                        refine kq_i hw hS hA (va_runS (As := [.int zi47931]) (rest := []) ⟨hx, hb, hml, hown, hT⟩ (cX12_isLetter_0 l G cy ev K ln Ls hW _ hp35409 ok35411 zi47931) (va_cwS 1 hT (good_S tb_1612 tb_1610 tb_1611 tb_122) rfl rfl rfl (by decide +kernel) ⟨Nat.le_of_ble_eq_true rfl, Nat.le_of_ble_eq_true rfl⟩) (PB2.preS hK hE hS hA hw) rfl rfl hl.1 rfl (lv_room (Nat.le_of_ble_eq_true rfl)) dX12_cut_92 ⟨Nat.le_of_ble_eq_true rfl, Nat.le_of_ble_eq_true rfl⟩) (fun zi47938 hp47934 H locs hq47937 hw hS => ?_)
                        obtain ⟨ok47935, F47936, bd47939, hc47940⟩ := hq47937
                        obtain rfl : hp35409 = hp47934 := (Fr.nil F47936).symm
                        have hw : PW G cy K ln Ls A hp35409 H := hw
                        rcases b01 bd47939 with cn47941 | cn47941
                        · skip
                          subst cn47941
                          refine lv_if_eq (tgt := 124) hx hb dX12_cut_95 (by decide) (fun _ => ?_) (fun c => absurd (d_eq bc_0 bc_0) c)
                          refine lv_iload_n hx hb dX12_cut_124 rfl (lv_at hl 2 rfl) ?_
                          refine lv_bipush (v := 8) hx hb dX12_cut_125 (by decide) ?_
                          have jn47994 : ∀ (zi47992 : Int32) (H : Heap) (locs : List Loc) (ls : Array Slot), ((1 : Int) ≤ zi47992.toInt ∧ zi47992.toInt ≤ 3) → lv_has ls 8 [(0, .ref qa900), (1, .int zi35408), (3, .int zi47784), (4, .long wl47785)] → PW G cy K ln Ls A hp35409 H → va_S A s.heap H locs → W p l e ({ frames := 2, cells := 0, slots := 0, locals := 49 } : Room) s m ([.ref qa900] : List Value).toArray below meth c H locs 0 0 Q (F0 m 135 ls [.int zi47992]) := by
                            intro zi47992 H locs ls bd47993 hl hw hS
                            refine lv_istore (lv' := [(6, .int zi47992), (0, .ref qa900), (1, .int zi35408), (3, .int zi47784), (4, .long wl47785)]) hx hb dX12_cut_135 hl (by decide) rfl (fun ls hl => ?_)
                            refine lv_iload_n hx hb dX12_cut_137 rfl (lv_at hl 3 rfl) ?_
                            refine lv_bipush (v := 7) hx hb dX12_cut_138 (by decide) ?_
                            have jn48298 : ∀ (zi48296 : Int32) (H : Heap) (locs : List Loc) (ls : Array Slot), ((1 : Int) ≤ zi48296.toInt ∧ zi48296.toInt ≤ 64) → lv_has ls 8 [(0, .ref qa900), (1, .int zi35408), (3, .int zi47784), (4, .long wl47785), (6, .int zi48296)] → PW G cy K ln Ls A hp35409 H → va_S A s.heap H locs → W p l e ({ frames := 2, cells := 0, slots := 0, locals := 49 } : Room) s m ([.ref qa900] : List Value).toArray below meth c H locs 0 0 Q (F0 m 179 ls []) := by
                              intro zi48296 H locs ls bd48297 hl hw hS
                              refine lv_aload_n hx hb dX12_cut_179 rfl (lv_at hl 0 rfl) ?_
                              refine lv_iload hx hb dX12_cut_180 (lv_at hl 4 rfl) ?_
                              refine lv_iload_n hx hb dX12_cut_182 rfl (lv_at hl 1 rfl) ?_
                              refine lv_iconst (v := 0) hx hb dX12_cut_183 (by decide) ?_
                              refine lv_lload hx hb dX12_cut_184 (lv_at hl 3 rfl) ?_
                              refine kq_v hw hS hA (va_runV (As := [.int zi48296, .int zi35408, .int 0, .long wl47785]) (rest := []) ⟨hx, hb, hml, hown, hT⟩ (cX12_token_5 l G cy ev K ln Ls hW _ hp35409 ok35411 qa900 zi48296 zi35408 0 wl47785 zi35413 kd900 eq35412 (b_wid2 bd44260 (by decide) (by decide))) (cwV 4 hT (good_V tb_1609 tb_1606 tb_1608 tb_50 tb_122) rfl rfl rfl (by decide +kernel) ⟨Nat.le_of_ble_eq_true rfl, Nat.le_of_ble_eq_true rfl⟩) (pool_preV (ci := 12) hK hE hS hA hw hW kd900 (by decide) rfl) rfl rfl hl.1 rfl (lv_room (Nat.le_of_ble_eq_true rfl)) dX12_cut_186 ⟨Nat.le_of_ble_eq_true rfl, Nat.le_of_ble_eq_true rfl⟩) (fun hp48299 H locs hq48302 hw hS => ?_)
                              obtain ⟨ok48300, F48301, ⟨zi48304, eq48305, bd48306⟩, rh48307⟩ := hq48302
                              have hw : PW G cy K ln Ls A hp48299 H := hw
                              simp only [gi_of eq35412, gi_of eq48305] at rh48307
                              refine lv_iload_n hx hb dX12_cut_189 rfl (lv_at hl 1 rfl) ?_
                              refine lv_iload_n hx hb dX12_cut_190 rfl (lv_at hl 2 rfl) ?_
                              refine lv_iadd hx hb dX12_cut_191 (lv_topi (fun zi48308 ea48309 => ?_))
                              have bd48310 : (0 : Int) ≤ zi48308.toInt ∧ zi48308.toInt ≤ 3999 := b_iadd ea48309 bd44273 bd47786 (by decide) (by decide) (by decide) (by decide)
                              have qe48311 : zi48308.toInt = zi35408.toInt + zi47784.toInt := e_iadd ea48309 bd44273 bd47786 (by decide) (by decide)
                              refine lv_istore_n (lv' := [(1, .int zi48308), (0, .ref qa900), (3, .int zi47784), (4, .long wl47785), (6, .int zi48296)]) hx hb dX12_cut_192 rfl hl (by decide) rfl (fun ls hl => ?_)
                              refine lv_goto (tgt := 291) hx hb dX12_cut_193 (by decide) ?_
                              exact jn46475 hp48299 zi48308 zi48304 _ _ ls ok48300 (Fr.tr (Fr.rf) F48301 (by decide)) (b_wid2 bd48310 (by decide) (by decide)) (b_wid2 bd48306 (by decide) (by decide)) eq48305 (lv_sub hl [1, 0] rfl) hw hS
                            refine lv_icmp_gt (tgt := 179) hx hb dX12_cut_140 (by decide) (fun cn47995 => ?_) (fun cn47995 => ?_)
                            · skip
                              have bd48312 : (8 : Int) ≤ zi47784.toInt ∧ zi47784.toInt ≤ 2000 := r_lt_y cn47995 bc_7 bd47786 (by decide) (by decide)
                              exact jn48298 zi47992 _ _ ls (b_wid2 bd47993 (by decide) (by decide)) (lv_sub hl [1, 2, 3, 4, 0] rfl) hw hS
                            · skip
                              have bd48313 : (0 : Int) ≤ zi47784.toInt ∧ zi47784.toInt ≤ 7 := r_le_x (Int32.not_lt.mp cn47995) bd47786 bc_7 (by decide) (by decide)
                              refine lv_iconst (v := 0) hx hb dX12_cut_143 (by decide) ?_
                              refine lv_istore (lv' := [(7, .int 0), (6, .int zi47992), (0, .ref qa900), (1, .int zi35408), (3, .int zi47784), (4, .long wl47785)]) hx hb dX12_cut_144 hl (by decide) rfl (fun ls hl => ?_)
                              have lp48577 : ∀ (n48575 : Nat) (zi48505 : Int32) (zi48506 : Int32) (H : Heap) (locs : List Loc) (ls : Array Slot), 18 - zi48506.toInt < (n48575 : Int) → ((1 : Int) ≤ zi48505.toInt ∧ zi48505.toInt ≤ 64) → ((0 : Int) ≤ zi48506.toInt ∧ zi48506.toInt ≤ 18) → lv_has ls 8 [(0, .ref qa900), (1, .int zi35408), (3, .int zi47784), (4, .long wl47785), (6, .int zi48505), (7, .int zi48506)] → PW G cy K ln Ls A hp35409 H → va_S A s.heap H locs → W p l e ({ frames := 2, cells := 0, slots := 0, locals := 49 } : Room) s m ([.ref qa900] : List Value).toArray below meth c H locs 0 0 Q (F0 m 146 ls []) := by
                                intro n48575
                                induction n48575 with
                                | zero =>
                                  intro zi48505 zi48506 H locs ls hm48578 bd48507 bd48508 hl hw hS
                                  exact absurd hm48578 (by have := bd48508; omega)
                                | succ n48575 ih48576 =>
                                  intro zi48505 zi48506 H locs ls hm48578 bd48507 bd48508 hl hw hS
                                  refine lv_iload hx hb dX12_cut_146 (lv_at hl 5 rfl) ?_
                                  refine lv_bipush (v := 18) hx hb dX12_cut_148 (by decide) ?_
                                  refine lv_icmp_ge (tgt := 179) hx hb dX12_cut_150 (by decide) (fun cn48579 => ?_) (fun cn48579 => ?_)
                                  · skip
                                    have bd48580 : (18 : Int) ≤ zi48506.toInt ∧ zi48506.toInt ≤ 18 := r_le_y cn48579 bc_18 bd48508 (by decide) (by decide)
                                    exact jn48298 zi48505 _ _ ls (b_wid2 bd48507 (by decide) (by decide)) (lv_sub hl [0, 1, 2, 3, 4] rfl) hw hS
                                  · skip
                                    have bd48581 : (0 : Int) ≤ zi48506.toInt ∧ zi48506.toInt ≤ 17 := r_lt_x (Int32.not_le.mp cn48579) bd48508 bc_18 (by decide) (by decide)
                                    refine lv_aload_n hx hb dX12_cut_153 rfl (lv_at hl 0 rfl) ?_
                                    obtain ⟨qa48583, eq48582, kd48584⟩ := rd_13009 ok35411 kd900
                                    refine p_get (ci := 12) (v := .ref qa48583) (C := RX12) (T := TX12) (N := 69) hx hb hT iw_X12 hown hK hw hW kd900 (by decide) rfl rfl 9 (by decide) eq48582 (hT _ tb_1383) (fun _ h9 => h9) dX12_cut_154 ?_
                                    refine lv_iload hx hb dX12_cut_157 (lv_at hl 5 rfl) ?_
                                    obtain ⟨wl48586, eq48585⟩ := rd_66000 ok35411 kd48584 ((zi48506 : Int32).toNatClampNeg)
                                    refine p_lald (v := wl48586) hx hb hK hw hW kd48584 (by decide) rfl (hW.len kd48584 (n := 18) rfl (by decide)) (vp_b bd48581 (by decide) (by decide)) eq48585 dX12_cut_159 ?_
                                    refine lv_lload hx hb dX12_cut_160 (lv_at hl 3 rfl) ?_
                                    refine W.lcmp hx hb dX12_cut_162 (lv_topi (fun zi48587 ea48588 => ?_))
                                    have jn48599 : ∀ (zi48597 : Int32) (H : Heap) (locs : List Loc) (ls : Array Slot), ((1 : Int) ≤ zi48597.toInt ∧ zi48597.toInt ≤ 64) → lv_has ls 8 [(0, .ref qa900), (1, .int zi35408), (3, .int zi47784), (4, .long wl47785), (6, .int zi48597), (7, .int zi48506)] → PW G cy K ln Ls A hp35409 H → va_S A s.heap H locs → W p l e ({ frames := 2, cells := 0, slots := 0, locals := 49 } : Room) s m ([.ref qa900] : List Value).toArray below meth c H locs 0 0 Q (F0 m 173 ls []) := by
                                      intro zi48597 H locs ls bd48598 hl hw hS
                                      obtain ⟨zi48600, ea48601⟩ : ∃ z : Int32, z = zi48506 + 1 := ⟨_, rfl⟩
                                      have bd48602 : (1 : Int) ≤ zi48600.toInt ∧ zi48600.toInt ≤ 18 := b_iadd ea48601 bd48581 bc_1 (by decide) (by decide) (by decide) (by decide)
                                      have qe48603 : zi48600.toInt = (zi48506 : Int32).toInt + (1 : Int32).toInt := e_iadd ea48601 bd48581 bc_1 (by decide) (by decide)
                                      have qe48604 : zi48600.toInt = zi48506.toInt + 1 := by have ha : (1 : Int32).toInt = 1 := (by decide); rw [ha] at qe48603; exact qe48603
                                      refine lv_iinc (v := zi48600) (lv' := [(7, .int zi48600), (0, .ref qa900), (1, .int zi35408), (3, .int zi47784), (4, .long wl47785), (6, .int zi48597)]) hx hb dX12_cut_173 hl (k := 5) rfl ea48601.symm (by decide) rfl (fun ls hl => ?_)
                                      refine lv_goto (tgt := 146) hx hb dX12_cut_176 (by decide) ?_
                                      exact ih48576 zi48597 zi48600 _ _ ls (by have := hm48578; have := qe48604; omega) (b_wid2 bd48598 (by decide) (by decide)) (b_wid2 bd48602 (by decide) (by decide)) (lv_sub hl [1, 2, 3, 4, 5, 0] rfl) hw hS
                                    refine lv_if_ne (tgt := 173) hx hb dX12_cut_163 (by decide) (fun cn48589 => ?_) (fun cn48589 => ?_)
                                    · skip
                                      have tf48605 : (zi48587 : Int32).toInt ≠ (0 : Int32).toInt := fun e => cn48589 (Int32.toInt_inj.mp e)
                                      have := toi bc_0
                                      exact jn48599 zi48505 _ _ ls (b_wid2 bd48507 (by decide) (by decide)) (lv_sub hl [0, 1, 2, 3, 4, 5] rfl) hw hS
                                    · skip
                                      have bd48606 : (0 : Int) ≤ zi48587.toInt ∧ zi48587.toInt ≤ 0 := r_eq_x cn48589 (b_all zi48587) bc_0 (by decide) (by decide)
                                      refine lv_bipush (v := 20) hx hb dX12_cut_166 (by decide) ?_
                                      refine lv_iload hx hb dX12_cut_168 (lv_at hl 5 rfl) ?_
                                      refine lv_iadd hx hb dX12_cut_170 (lv_topi (fun zi48607 ea48608 => ?_))
                                      have bd48609 : (20 : Int) ≤ zi48607.toInt ∧ zi48607.toInt ≤ 37 := b_iadd ea48608 bc_20 bd48581 (by decide) (by decide) (by decide) (by decide)
                                      have qe48610 : zi48607.toInt = (20 : Int32).toInt + (zi48506 : Int32).toInt := e_iadd ea48608 bc_20 bd48581 (by decide) (by decide)
                                      have qe48611 : zi48607.toInt = 20 + zi48506.toInt := by have ha : (20 : Int32).toInt = 20 := (by decide); rw [ha] at qe48610; exact qe48610
                                      refine lv_istore (lv' := [(6, .int zi48607), (0, .ref qa900), (1, .int zi35408), (3, .int zi47784), (4, .long wl47785), (7, .int zi48506)]) hx hb dX12_cut_171 hl (by decide) rfl (fun ls hl => ?_)
                                      exact jn48599 zi48607 _ _ ls (b_wid2 bd48609 (by decide) (by decide)) (lv_sub hl [1, 2, 3, 4, 0, 5] rfl) hw hS
                              exact lp48577 _ zi47992 0 _ _ ls (lp_in _) (b_wid2 bd47993 (by decide) (by decide)) (b_wid2 bc_0 (by decide) (by decide)) (lv_sub hl [2, 3, 4, 5, 1, 0] rfl) hw hS
                          refine lv_icmp_le (tgt := 134) hx hb dX12_cut_127 (by decide) (fun cn47989 => ?_) (fun cn47989 => ?_)
                          · skip
                            have bd48612 : (0 : Int) ≤ zi47784.toInt ∧ zi47784.toInt ≤ 8 := r_le_x cn47989 bd47786 bc_8 (by decide) (by decide)
                            refine lv_iconst (v := 1) hx hb dX12_cut_134 (by decide) ?_
                            exact jn47994 1 _ _ ls (b_wid2 bc_1 (by decide) (by decide)) (lv_sub hl [0, 1, 2, 3] rfl) hw hS
                          · skip
                            have bd48613 : (9 : Int) ≤ zi47784.toInt ∧ zi47784.toInt ≤ 2000 := r_lt_y (Int32.not_le.mp cn47989) bc_8 bd47786 (by decide) (by decide)
                            refine lv_iconst (v := 3) hx hb dX12_cut_130 (by decide) ?_
                            refine lv_goto (tgt := 135) hx hb dX12_cut_131 (by decide) ?_
                            exact jn47994 3 _ _ ls (b_wid2 bc_3 (by decide) (by decide)) (lv_sub hl [0, 1, 2, 3] rfl) hw hS
                        · skip
                          subst cn47941
                          have bd48614 : (97 : Int) ≤ zi47931.toInt ∧ zi47931.toInt ≤ 122 := b_meet bd47932 (hc47940 rfl) (by decide) (by decide)
                          have bd48615 : (0 : Int) ≤ zi47923.toInt ∧ zi47923.toInt ≤ 1999 := b_meet bd47925 (hi47933 (by have := bd48614; omega)) (by decide) (by decide)
                          have bd48616 : (0 : Int) ≤ zi47784.toInt ∧ zi47784.toInt ≤ 1999 := (by have := qe47926; have := bd48615; have := bd44273; have := bd47786; omega)
                          refine lv_if_eq (tgt := 124) hx hb dX12_cut_95 (by decide) (fun c => absurd c (d_ne bc_1 bc_0 (by decide))) (fun _ => ?_)
                          refine lv_iload_n hx hb dX12_cut_98 rfl (lv_at hl 2 rfl) ?_
                          refine lv_bipush (v := 8) hx hb dX12_cut_99 (by decide) ?_
                          have jn48637 : ∀ (wl48636 : Int64) (H : Heap) (locs : List Loc) (ls : Array Slot), lv_has ls 8 [(0, .ref qa900), (1, .int zi35408), (3, .int zi47784), (4, .long wl48636)] → PW G cy K ln Ls A hp35409 H → va_S A s.heap H locs → W p l e ({ frames := 2, cells := 0, slots := 0, locals := 49 } : Room) s m ([.ref qa900] : List Value).toArray below meth c H locs 0 0 Q (F0 m 118 ls []) := by
                            intro wl48636 H locs ls hl hw hS
                            obtain ⟨zi48638, ea48639⟩ : ∃ z : Int32, z = zi47784 + 1 := ⟨_, rfl⟩
                            have bd48640 : (1 : Int) ≤ zi48638.toInt ∧ zi48638.toInt ≤ 2000 := b_iadd ea48639 bd48616 bc_1 (by decide) (by decide) (by decide) (by decide)
                            have qe48641 : zi48638.toInt = (zi47784 : Int32).toInt + (1 : Int32).toInt := e_iadd ea48639 bd48616 bc_1 (by decide) (by decide)
                            have qe48642 : zi48638.toInt = zi47784.toInt + 1 := by have ha : (1 : Int32).toInt = 1 := (by decide); rw [ha] at qe48641; exact qe48641
                            refine lv_iinc (v := zi48638) (lv' := [(3, .int zi48638), (0, .ref qa900), (1, .int zi35408), (4, .long wl48636)]) hx hb dX12_cut_118 hl (k := 2) rfl ea48639.symm (by decide) rfl (fun ls hl => ?_)
                            refine lv_goto (tgt := 85) hx hb dX12_cut_121 (by decide) ?_
                            exact ih47920 zi48638 wl48636 _ _ ls (by have := hm47922; have := qe48642; omega) (b_wid2 bd48640 (by decide) (by decide)) (lv_sub hl [1, 2, 0, 3] rfl) hw hS
                          refine lv_icmp_ge (tgt := 118) hx hb dX12_cut_101 (by decide) (fun cn48617 => ?_) (fun cn48617 => ?_)
                          · skip
                            have bd48643 : (8 : Int) ≤ zi47784.toInt ∧ zi47784.toInt ≤ 1999 := r_le_y cn48617 bc_8 bd48616 (by decide) (by decide)
                            exact jn48637 wl47785 _ _ ls (lv_sub hl [0, 1, 2, 3] rfl) hw hS
                          · skip
                            have bd48644 : (0 : Int) ≤ zi47784.toInt ∧ zi47784.toInt ≤ 7 := r_lt_x (Int32.not_le.mp cn48617) bd48616 bc_8 (by decide) (by decide)
                            refine lv_lload hx hb dX12_cut_104 (lv_at hl 3 rfl) ?_
                            refine lv_aload_n hx hb dX12_cut_106 rfl (lv_at hl 0 rfl) ?_
                            refine lv_iload_n hx hb dX12_cut_107 rfl (lv_at hl 1 rfl) ?_
                            refine lv_iload_n hx hb dX12_cut_108 rfl (lv_at hl 2 rfl) ?_
                            refine lv_iadd hx hb dX12_cut_109 (lv_topi (fun zi48645 ea48646 => ?_))
                            have bd48647 : (0 : Int) ≤ zi48645.toInt ∧ zi48645.toInt ≤ 2006 := b_iadd ea48646 bd44273 bd48644 (by decide) (by decide) (by decide) (by decide)
                            have qe48648 : zi48645.toInt = zi35408.toInt + zi47784.toInt := e_iadd ea48646 bd44273 bd48644 (by decide) (by decide)
                            refine kq_i hw hS hA (va_runV (As := [.int zi48645]) (rest := [.long wl47785]) ⟨hx, hb, hml, hown, hT⟩ (cX12_byteAt_0 l G cy ev K ln Ls hW _ hp35409 ok35411 qa900 zi48645 kd900 (b_wid2 bd48647 (by decide) (by decide))) (cwV 1 hT (good_V tb_1605 tb_1602 tb_1604 tb_49 tb_122) rfl rfl rfl (by decide +kernel) ⟨Nat.le_of_ble_eq_true rfl, Nat.le_of_ble_eq_true rfl⟩) (pool_preV (ci := 12) hK hE hS hA hw hW kd900 (by decide) rfl) rfl rfl hl.1 rfl (lv_room (Nat.le_of_ble_eq_true rfl)) dX12_cut_110 ⟨Nat.le_of_ble_eq_true rfl, Nat.le_of_ble_eq_true rfl⟩) (fun zi48653 hp48649 H locs hq48652 hw hS => ?_)
                            obtain ⟨ok48650, F48651, bd48654, hi48655⟩ := hq48652
                            obtain rfl : hp35409 = hp48649 := (Fr.nil F48651).symm
                            have hw : PW G cy K ln Ls A hp35409 H := hw
                            refine kq_l hw hS hA (va_runS (As := [.long wl47785, .int zi48653]) (rest := []) ⟨hx, hb, hml, hown, hT⟩ (cX12_appends_0 l G cy ev K ln Ls hW _ hp35409 ok35411 wl47785 zi48653) (va_cwS 2 hT (good_S tb_1373 tb_1371 tb_1372 tb_122) rfl rfl rfl (by decide +kernel) ⟨Nat.le_of_ble_eq_true rfl, Nat.le_of_ble_eq_true rfl⟩) (PB2.preS hK hE hS hA hw) rfl rfl hl.1 rfl (lv_room (Nat.le_of_ble_eq_true rfl)) dX12_cut_113 ⟨Nat.le_of_ble_eq_true rfl, Nat.le_of_ble_eq_true rfl⟩) (fun wl48660 hp48656 H locs hq48659 hw hS => ?_)
                            obtain ⟨ok48657, F48658⟩ := hq48659
                            obtain rfl : hp35409 = hp48656 := (Fr.nil F48658).symm
                            have hw : PW G cy K ln Ls A hp35409 H := hw
                            refine lv_lstore (lv' := [(4, .long wl48660), (0, .ref qa900), (1, .int zi35408), (3, .int zi47784)]) hx hb dX12_cut_116 hl (by decide) rfl (fun ls hl => ?_)
                            exact jn48637 wl48660 _ _ ls (lv_sub hl [1, 2, 3, 0] rfl) hw hS
                    exact lp47921 _ 0 0 _ _ ls (lp_in _) (b_wid2 bc_0 (by decide) (by decide)) (lv_sub hl [3, 4, 1, 0] rfl) hw hS
                · skip
                  have bd48661 : (32 : Int) ≤ zi44265.toInt ∧ zi44265.toInt ≤ 32 := r_eq_x cn46499 bd44266 bc_32 (by decide) (by decide)
                  obtain ⟨zi48662, ea48663⟩ : ∃ z : Int32, z = zi35408 + 1 := ⟨_, rfl⟩
                  have bd48664 : (1 : Int) ≤ zi48662.toInt ∧ zi48662.toInt ≤ 2000 := b_iadd ea48663 bd44273 bc_1 (by decide) (by decide) (by decide) (by decide)
                  have qe48665 : zi48662.toInt = (zi35408 : Int32).toInt + (1 : Int32).toInt := e_iadd ea48663 bd44273 bc_1 (by decide) (by decide)
                  have qe48666 : zi48662.toInt = zi35408.toInt + 1 := by have ha : (1 : Int32).toInt = 1 := (by decide); rw [ha] at qe48665; exact qe48665
                  refine lv_iinc (v := zi48662) (lv' := [(1, .int zi48662), (2, .int zi44265), (0, .ref qa900)]) hx hb dX12_cut_67 hl (k := 2) rfl ea48663.symm (by decide) rfl (fun ls hl => ?_)
                  refine lv_goto (tgt := 291) hx hb dX12_cut_70 (by decide) ?_
                  exact jn46475 hp35409 zi48662 zi35413 _ _ ls ok35411 (Fr.rf) (b_wid2 bd48664 (by decide) (by decide)) (b_wid2 bd44260 (by decide) (by decide)) eq35412 (lv_sub hl [2, 0] rfl) hw hS
        · skip
          have tf48667 : zi44269.toInt ≤ zi35408.toInt := (fa_le _ _).mp (Int32.not_lt.mp cn44271)
          refine lv_aload_n hx hb dX12_cut_31 rfl (lv_at hl 1 rfl) ?_
          refine lv_iconst (v := 0) hx hb dX12_cut_32 (by decide) ?_
          refine lv_aload_n hx hb dX12_cut_33 rfl (lv_at hl 1 rfl) ?_
          refine p_get (ci := 12) (v := .int zi44269) (C := RX12) (T := TX12) (N := 69) hx hb hT iw_X12 hown hK hw hW kd900 (by decide) rfl rfl 4 (by decide) eq44268 (hT _ tb_1378) (fun _ h9 => h9) dX12_cut_34 ?_
          refine lv_iconst (v := 0) hx hb dX12_cut_37 (by decide) ?_
          refine lv_lconst (v := 0) hx hb dX12_cut_38 (by decide) ?_
          refine kq_v hw hS hA (va_runV (As := [.int 0, .int zi44269, .int 0, .long 0]) (rest := []) ⟨hx, hb, hml, hown, hT⟩ (cX12_token_5 l G cy ev K ln Ls hW _ hp35409 ok35411 qa900 0 zi44269 0 0 zi35413 kd900 eq35412 (b_wid2 bd44260 (by decide) (by decide))) (cwV 4 hT (good_V tb_1609 tb_1606 tb_1608 tb_50 tb_122) rfl rfl rfl (by decide +kernel) ⟨Nat.le_of_ble_eq_true rfl, Nat.le_of_ble_eq_true rfl⟩) (pool_preV (ci := 12) hK hE hS hA hw hW kd900 (by decide) rfl) rfl rfl hl.1 rfl (lv_room (Nat.le_of_ble_eq_true rfl)) dX12_cut_39 ⟨Nat.le_of_ble_eq_true rfl, Nat.le_of_ble_eq_true rfl⟩) (fun hp48668 H locs hq48671 hw hS => ?_)
          obtain ⟨ok48669, F48670, ⟨zi48673, eq48674, bd48675⟩, rh48676⟩ := hq48671
          have hw : PW G cy K ln Ls A hp48668 H := hw
          simp only [gi_of eq35412, gi_of eq48674] at rh48676
          rw [hQ]
          exact kz_v hx hb hr hlocks hS hp48668 hw ⟨ok48669, (Fr.tr (Fr.tr (Fr.put (cq := 13010) (Fr.rf) eh2 kd900 (cd_o (by decide)) (by decide)) F35410 (by decide)) F48670 (by decide)), ⟨_, eq48674, b_wid2 bd48675 (by decide) (by decide)⟩⟩ (Nat.le_of_ble_eq_true rfl) (Nat.le_of_ble_eq_true rfl) dX12_cut_42
  exact lp44256 _ hp1 0 0 _ _ ls (lp_in _) ok3 (Fr.rf) (b_wid2 bc_0 (by decide) (by decide)) (b_wid2 bc_0 (by decide) (by decide)) (hp_self eh2) (lv_sub hl [1, 0] rfl) hw hS

set_option maxRecDepth 100000 in
set_option maxHeartbeats 4000000 in
theorem cX12_is_0 (l : Launch) (G : va_G) (cy : Nat → ClassId) (ev : Ew) (K ln : Nat → Nat) (Ls : List Nat) (hW : SW K ln Ls) (sz : Nat) (hp0 : Nat → Nat → Value) (ok0 : Ok K hp0) (qa900 : Nat) (zi901 : Int32) (kd900 : K qa900 = 13) : Met l yX12_is (WS yX12_is cX12_is 2 (some .boolean)) { frames := 0, cells := 0, slots := 0, locals := 0 } (PB2 [.ref qa900, .int zi901] sz G cy ev (va_pl Ls (cellOf cy K ln hp0))) (QBi (S := (Nat → Nat → Value)) (fun (r : Int32) (u : (Nat → Nat → Value)) => Ok K u ∧ Fr [] K hp0 u ∧ ((0 : Int) ≤ r.toInt ∧ r.toInt ≤ 1) ∧ (r = 1 → ∃ z : Int32, u qa900 13 = .int z ∧ ((0 : Int) ≤ z.toInt ∧ z.toInt ≤ 0)) ∧ (r = 1 → (ge u qa900 5 11) = (zi901 : Int32).toInt) ∧ (r = 1 → (gi u qa900 13) = 0) ∧ (r = 0 → (gi u qa900 13) ≠ 0 ∨ (ge u qa900 5 11) ≠ (zi901 : Int32).toInt)) G (fun u => va_pl Ls (cellOf cy K ln u)) (va_A (va_pl Ls (cellOf cy K ln hp0)) sz)) 0 0 (va_A (va_pl Ls (cellOf cy K ln hp0)) sz) := by
  refine met_of2 (y := yX12_is) (L := 2) (av := [.ref qa900, .int zi901]) (Qc := fun A => QBi (S := (Nat → Nat → Value)) (fun (r : Int32) (u : (Nat → Nat → Value)) => Ok K u ∧ Fr [] K hp0 u ∧ ((0 : Int) ≤ r.toInt ∧ r.toInt ≤ 1) ∧ (r = 1 → ∃ z : Int32, u qa900 13 = .int z ∧ ((0 : Int) ≤ z.toInt ∧ z.toInt ≤ 0)) ∧ (r = 1 → (ge u qa900 5 11) = (zi901 : Int32).toInt) ∧ (r = 1 → (gi u qa900 13) = 0) ∧ (r = 0 → (gi u qa900 13) ≠ 0 ∨ (ge u qa900 5 11) ≠ (zi901 : Int32).toInt)) G (fun u => va_pl Ls (cellOf cy K ln u)) A) (plainFor_of_name (by decide)) (Nat.le_of_ble_eq_true rfl) ?_
  intro p e s m below meth c hsz hx hb hr hml hown hT hlocks hin hK A hA hE hw hS ls hl
  have hw : PW G cy K ln Ls A hp0 s.heap := hw
  have hown : s.vm.findClass "LieClockModel" = some m.cls := hown
  have hl : lv_has ls 2 [(0, .ref qa900), (1, .int zi901)] := hl
  obtain ⟨Q, hQ⟩ : ∃ Q : State → Prop, Q = MQ below (QBi (S := (Nat → Nat → Value)) (fun (r : Int32) (u : (Nat → Nat → Value)) => Ok K u ∧ Fr [] K hp0 u ∧ ((0 : Int) ≤ r.toInt ∧ r.toInt ≤ 1) ∧ (r = 1 → ∃ z : Int32, u qa900 13 = .int z ∧ ((0 : Int) ≤ z.toInt ∧ z.toInt ≤ 0)) ∧ (r = 1 → (ge u qa900 5 11) = (zi901 : Int32).toInt) ∧ (r = 1 → (gi u qa900 13) = 0) ∧ (r = 0 → (gi u qa900 13) ≠ 0 ∨ (ge u qa900 5 11) ≠ (zi901 : Int32).toInt)) G (fun u => va_pl Ls (cellOf cy K ln u)) A) ([.ref qa900, .int zi901] : List Value).toArray s 0 0 A := ⟨_, rfl⟩
  rw [← hQ]
  obtain ⟨zi2, eq1, bd3⟩ := rd_13013 ok0 kd900
  obtain ⟨qa5, eq4, kd6⟩ := rd_13005 ok0 kd900
  obtain ⟨zi8, eq7, bd9⟩ := rd_13011 ok0 kd900
  obtain ⟨zi11, eq10⟩ := rd_62000 ok0 kd6 ((zi8 : Int32).toNatClampNeg)
  refine lv_aload_n hx hb dX12_is_0 rfl (lv_at hl 0 rfl) ?_
  refine p_get (ci := 12) (v := .int zi2) (C := RX12) (T := TX12) (N := 69) hx hb hT iw_X12 hown hK hw hW kd900 (by decide) rfl rfl 13 (by decide) eq1 (hT _ tb_1387) (fun _ h9 => h9) dX12_is_1 ?_
  refine lv_if_ne (tgt := 24) hx hb dX12_is_4 (by decide) (fun cn12 => ?_) (fun cn12 => ?_)
  · skip
    have tf13 : (zi2 : Int32).toInt ≠ (0 : Int32).toInt := fun e => cn12 (Int32.toInt_inj.mp e)
    have := toi bc_0
    have bd14 : (1 : Int) ≤ zi2.toInt ∧ zi2.toInt ≤ 2 := r_ne_lo cn12 bd3 (toi bc_0) (by decide) (by decide)
    refine lv_iconst (v := 0) hx hb dX12_is_24 (by decide) ?_
    rw [hQ]
    exact kz_i hx hb hr hlocks hS (nz_n bc_0 (by decide) (by decide)) hp0 hw ⟨ok0, (Fr.rf), (b_wid2 bc_0 (by decide) (by decide)), (fun h => absurd h (by decide)), (fun h => absurd h (by decide)), (fun h => absurd h (by decide)), (fun _ => by simp only [ge_of eq4 eq7 eq10, gi_of eq1]; omega)⟩ (Nat.le_of_ble_eq_true rfl) (Nat.le_of_ble_eq_true rfl) dX12_is_25
  · skip
    have bd15 : (0 : Int) ≤ zi2.toInt ∧ zi2.toInt ≤ 0 := r_eq_x cn12 bd3 bc_0 (by decide) (by decide)
    refine lv_aload_n hx hb dX12_is_7 rfl (lv_at hl 0 rfl) ?_
    refine p_get (ci := 12) (v := .ref qa5) (C := RX12) (T := TX12) (N := 69) hx hb hT iw_X12 hown hK hw hW kd900 (by decide) rfl rfl 5 (by decide) eq4 (hT _ tb_1379) (fun _ h9 => h9) dX12_is_8 ?_
    refine lv_aload_n hx hb dX12_is_11 rfl (lv_at hl 0 rfl) ?_
    refine p_get (ci := 12) (v := .int zi8) (C := RX12) (T := TX12) (N := 69) hx hb hT iw_X12 hown hK hw hW kd900 (by decide) rfl rfl 11 (by decide) eq7 (hT _ tb_1385) (fun _ h9 => h9) dX12_is_12 ?_
    refine p_iald (v := zi11) hx hb hK hw hW kd6 (by decide) rfl (hW.len kd6 (n := 403) rfl (by decide)) (vp_b bd9 (by decide) (by decide)) eq10 dX12_is_15 ?_
    refine lv_iload_n hx hb dX12_is_16 rfl (lv_at hl 1 rfl) ?_
    refine lv_icmp_ne (tgt := 24) hx hb dX12_is_17 (by decide) (fun cn16 => ?_) (fun cn16 => ?_)
    · skip
      have tf17 : (zi11 : Int32).toInt ≠ (zi901 : Int32).toInt := fun e => cn16 (Int32.toInt_inj.mp e)
      refine lv_iconst (v := 0) hx hb dX12_is_24 (by decide) ?_
      rw [hQ]
      exact kz_i hx hb hr hlocks hS (nz_n bc_0 (by decide) (by decide)) hp0 hw ⟨ok0, (Fr.rf), (b_wid2 bc_0 (by decide) (by decide)), (fun h => absurd h (by decide)), (fun h => absurd h (by decide)), (fun h => absurd h (by decide)), (fun _ => by simp only [ge_of eq4 eq7 eq10, gi_of eq1]; omega)⟩ (Nat.le_of_ble_eq_true rfl) (Nat.le_of_ble_eq_true rfl) dX12_is_25
    · skip
      have tf18 : zi11.toInt = zi901.toInt := congrArg Int32.toInt cn16
      refine lv_iconst (v := 1) hx hb dX12_is_20 (by decide) ?_
      refine lv_goto (tgt := 25) hx hb dX12_is_21 (by decide) ?_
      rw [hQ]
      exact kz_i hx hb hr hlocks hS (nz_n bc_1 (by decide) (by decide)) hp0 hw ⟨ok0, (Fr.rf), (b_wid2 bc_1 (by decide) (by decide)), (fun _ => ⟨_, eq1, b_wid2 bd15 (by decide) (by decide)⟩), (fun _ => by simp only [ge_of eq4 eq7 eq10]; omega), (fun _ => by simp only [gi_of eq1]; omega), (fun h => absurd h (by decide))⟩ (Nat.le_of_ble_eq_true rfl) (Nat.le_of_ble_eq_true rfl) dX12_is_25
