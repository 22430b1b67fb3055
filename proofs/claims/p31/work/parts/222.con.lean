set_option maxRecDepth 100000 in
set_option maxHeartbeats 4000000 in
theorem cX12_fillsBook_0 (l : Launch) (G : va_G) (cy : Nat → ClassId) (ev : Ew) (K ln : Nat → Nat) (Ls : List Nat) (hW : SW K ln Ls) (sz : Nat) (hp0 : Nat → Nat → Value) (ok0 : Ok K hp0) (qa900 : Nat) (zi901 : Int32) (kd900 : K qa900 = 13) (bd901 : ((0 : Int) ≤ zi901.toInt ∧ zi901.toInt ≤ 5)) (pdLW : LW hp0 qa900) : Met l yX12_fillsBook (WS yX12_fillsBook cX12_fillsBook 4 none) { frames := 4, cells := 0, slots := 0, locals := 103 } (PB2 [.ref qa900, .int zi901] sz G cy ev (va_pl Ls (cellOf cy K ln hp0))) (QBv (S := (Nat → Nat → Value)) (fun u : (Nat → Nat → Value) => Ok K u ∧ Fr [13048, 13051, 13063, 13064, 13065, 90000, 91000, 93000, 95000, 100000] K hp0 u) G (fun u => va_pl Ls (cellOf cy K ln u)) (va_A (va_pl Ls (cellOf cy K ln hp0)) sz)) 0 0 (va_A (va_pl Ls (cellOf cy K ln hp0)) sz) := by
  refine met_of2 (y := yX12_fillsBook) (L := 4) (av := [.ref qa900, .int zi901]) (Qc := fun A => QBv (S := (Nat → Nat → Value)) (fun u : (Nat → Nat → Value) => Ok K u ∧ Fr [13048, 13051, 13063, 13064, 13065, 90000, 91000, 93000, 95000, 100000] K hp0 u) G (fun u => va_pl Ls (cellOf cy K ln u)) A) (plainFor_of_name (by decide)) (Nat.le_of_ble_eq_true rfl) ?_
  intro p e s m below meth c hsz hx hb hr hml hown hT hlocks hin hK A hA hE hw hS ls hl
  have hw : PW G cy K ln Ls A hp0 s.heap := hw
  have hown : s.vm.findClass "LieClockModel" = some m.cls := hown
  have hl : lv_has ls 4 [(0, .ref qa900), (1, .int zi901)] := hl
  obtain ⟨Q, hQ⟩ : ∃ Q : State → Prop, Q = MQ below (QBv (S := (Nat → Nat → Value)) (fun u : (Nat → Nat → Value) => Ok K u ∧ Fr [13048, 13051, 13063, 13064, 13065, 90000, 91000, 93000, 95000, 100000] K hp0 u) G (fun u => va_pl Ls (cellOf cy K ln u)) A) ([.ref qa900, .int zi901] : List Value).toArray s 0 0 A := ⟨_, rfl⟩
  rw [← hQ]
  refine lv_aload_n hx hb dX12_fillsBook_0 rfl (lv_at hl 0 rfl) ?_
  refine lv_lconst (v := 0) hx hb dX12_fillsBook_1 (by decide) ?_
  refine p_put (ci := 12) (v := .long 0) (ty := .long) (C := RX12) (T := TX12) (N := 69) hx hb hT iw_X12 tyX12 tyX12_ok nmX12 hown hK hw hS hW kd900 (by decide) rfl rfl 63 (by decide) (hT _ tb_1437) (fun _ h9 => h9) rfl (by decide +kernel) rfl rfl dX12_fillsBook_2 (fun hp1 eh2 H locs hw hS => ?_)
  have ok3 := wr_13063 ok0 kd900 eh2
  refine lv_aload_n hx hb dX12_fillsBook_5 rfl (lv_at hl 0 rfl) ?_
  refine lv_iconst (v := 0) hx hb dX12_fillsBook_6 (by decide) ?_
  refine p_put (ci := 12) (v := .int 0) (ty := .int) (C := RX12) (T := TX12) (N := 69) hx hb hT iw_X12 tyX12 tyX12_ok nmX12 hown hK hw hS hW kd900 (by decide) rfl rfl 64 (by decide) (hT _ tb_1438) (fun _ h9 => h9) rfl (by decide +kernel) rfl rfl dX12_fillsBook_7 (fun hp4 eh5 H locs hw hS => ?_)
  have ok6 := wr_13064 ok3 kd900 eh5
  refine lv_aload_n hx hb dX12_fillsBook_10 rfl (lv_at hl 0 rfl) ?_
  refine lv_iconst (v := 0) hx hb dX12_fillsBook_11 (by decide) ?_
  refine p_put (ci := 12) (v := .int 0) (ty := .int) (C := RX12) (T := TX12) (N := 69) hx hb hT iw_X12 tyX12 tyX12_ok nmX12 hown hK hw hS hW kd900 (by decide) rfl rfl 65 (by decide) (hT _ tb_1439) (fun _ h9 => h9) rfl (by decide +kernel) rfl rfl dX12_fillsBook_12 (fun hp7 eh8 H locs hw hS => ?_)
  have ok9 := wr_13065 ok6 kd900 eh8
  refine lv_aload_n hx hb dX12_fillsBook_15 rfl (lv_at hl 0 rfl) ?_
  refine kq_v hw hS hA (va_runV (As := []) (rest := []) ⟨hx, hb, hml, hown, hT⟩ (cX12_begins_0 l G cy ev K ln Ls hW _ hp7 ok9 qa900 kd900) (cwV 0 hT (good_V tb_1719 tb_1716 tb_1718 tb_75 tb_122) rfl rfl rfl (by decide +kernel) ⟨Nat.le_of_ble_eq_true rfl, Nat.le_of_ble_eq_true rfl⟩) (pool_preV (ci := 12) hK hE hS hA hw hW kd900 (by decide) rfl) rfl rfl hl.1 rfl (lv_room (Nat.le_of_ble_eq_true rfl)) dX12_fillsBook_16 ⟨Nat.le_of_ble_eq_true rfl, Nat.le_of_ble_eq_true rfl⟩) (fun hp10 H locs hq13 hw hS => ?_)
  obtain ⟨ok11, F12⟩ := hq13
  have hw : PW G cy K ln Ls A hp10 H := hw
  refine lv_iload_n hx hb dX12_fillsBook_19 rfl (lv_at hl 1 rfl) ?_
  refine lv_if_ne (tgt := 29) hx hb dX12_fillsBook_20 (by decide) (fun cn15 => ?_) (fun cn15 => ?_)
  · skip
    have tf16 : (zi901 : Int32).toInt ≠ (0 : Int32).toInt := fun e => cn15 (Int32.toInt_inj.mp e)
    have := toi bc_0
    have bd17 : (1 : Int) ≤ zi901.toInt ∧ zi901.toInt ≤ 5 := r_ne_lo cn15 bd901 (toi bc_0) (by decide) (by decide)
    refine lv_iconst (v := 0) hx hb dX12_fillsBook_29 (by decide) ?_
    refine lv_istore_n (lv' := [(2, .int 0), (0, .ref qa900), (1, .int zi901)]) hx hb dX12_fillsBook_30 rfl hl (by decide) rfl (fun ls hl => ?_)
    have lp185 : ∀ (n183 : Nat) (hp141 : Nat → Nat → Value) (zi140 : Int32) (H : Heap) (locs : List Loc) (ls : Array Slot), 40 - zi140.toInt < (n183 : Int) → Ok K hp141 → Fr [100000] K hp10 hp141 → ((0 : Int) ≤ zi140.toInt ∧ zi140.toInt ≤ 40) → lv_has ls 4 [(0, .ref qa900), (1, .int zi901), (2, .int zi140)] → PW G cy K ln Ls A hp141 H → va_S A s.heap H locs → W p l e ({ frames := 4, cells := 0, slots := 0, locals := 103 } : Room) s m ([.ref qa900, .int zi901] : List Value).toArray below meth c H locs 0 0 Q (F0 m 31 ls []) := by
      intro n183
      induction n183 with
      | zero =>
        intro hp141 zi140 H locs ls hm186 ok143 F142 bd144 hl hw hS
        exact absurd hm186 (by have := bd144; omega)
      | succ n183 ih184 =>
        intro hp141 zi140 H locs ls hm186 ok143 F142 bd144 hl hw hS
        refine lv_iload_n hx hb dX12_fillsBook_31 rfl (lv_at hl 2 rfl) ?_
        refine lv_bipush (v := 40) hx hb dX12_fillsBook_32 (by decide) ?_
        refine lv_icmp_ge (tgt := 55) hx hb dX12_fillsBook_34 (by decide) (fun cn187 => ?_) (fun cn187 => ?_)
        · skip
          have bd188 : (40 : Int) ≤ zi140.toInt ∧ zi140.toInt ≤ 40 := r_le_y cn187 bc_40 bd144 (by decide) (by decide)
          refine lv_iconst (v := 0) hx hb dX12_fillsBook_55 (by decide) ?_
          refine lv_istore_n (lv' := [(2, .int 0), (0, .ref qa900), (1, .int zi901)]) hx hb dX12_fillsBook_56 rfl hl (by decide) rfl (fun ls hl => ?_)
          obtain ⟨qa190, eq189, kd191⟩ := rd_13056 ok143 kd900
          refine lv_aload_n hx hb dX12_fillsBook_57 rfl (lv_at hl 1 rfl) ?_
          refine p_get (ci := 12) (v := .ref qa190) (C := RX12) (T := TX12) (N := 69) hx hb hT iw_X12 hown hK hw hW kd900 (by decide) rfl rfl 56 (by decide) eq189 (hT _ tb_1430) (fun _ h9 => h9) dX12_fillsBook_58 ?_
          refine lv_iconst (v := 0) hx hb dX12_fillsBook_61 (by decide) ?_
          refine lv_iconst (v := (-1)) hx hb dX12_fillsBook_62 (by decide) ?_
          refine p_iast (x := (-1)) hx hb hK hw hS hW kd191 (by decide) rfl (hW.len kd191 (n := 6) rfl (by decide)) (vp_b bc_0 (by decide) (by decide)) dX12_fillsBook_63 (fun hp192 eh193 H locs hw hS => ?_)
          have ok194 := wr_95000 bc_m1 (by decide) (by decide) ok143 kd191 eh193
          have lp3317 : ∀ (n3315 : Nat) (hp2071 : Nat → Nat → Value) (zi2070 : Int32) (H : Heap) (locs : List Loc) (ls : Array Slot), 2000000 - VBx (mA hp2071 qa900 56) (zi2070 : Int32).toInt < (n3315 : Int) → Ok K hp2071 → Fr [13048, 13051, 13063, 13064, 13065, 90000, 91000, 93000, 95000, 100000] K hp192 hp2071 → ((-1 : Int) ≤ zi2070.toInt ∧ zi2070.toInt ≤ 4) → ((zi2070 : Int32).toInt ≤ (zi901 : Int32).toInt - 1) → (SBx (mA hp2071 qa900 56) (zi2070 : Int32).toInt) → lv_has ls 4 [(0, .ref qa900), (1, .int zi901), (2, .int zi2070)] → PW G cy K ln Ls A hp2071 H → va_S A s.heap H locs → W p l e ({ frames := 4, cells := 0, slots := 0, locals := 103 } : Room) s m ([.ref qa900, .int zi901] : List Value).toArray below meth c H locs 0 0 Q (F0 m 64 ls []) := by
            intro n3315
            induction n3315 with
            | zero =>
              intro hp2071 zi2070 H locs ls hm3318 ok2073 F2072 bd2076 rq2074 jx2075 hl hw hS
              exact absurd hm3318 (by have := VBx_le (d := (zi2070 : Int32).toInt) (said_b ok2073 kd900); omega)
            | succ n3315 ih3316 =>
              intro hp2071 zi2070 H locs ls hm3318 ok2073 F2072 bd2076 rq2074 jx2075 hl hw hS
              refine lv_iload_n hx hb dX12_fillsBook_64 rfl (lv_at hl 2 rfl) ?_
              refine lv_if_lt (tgt := 221) hx hb dX12_fillsBook_65 (by decide) (fun cn3319 => ?_) (fun cn3319 => ?_)
              · skip
                have bd3320 : (-1 : Int) ≤ zi2070.toInt ∧ zi2070.toInt ≤ -1 := r_lt_x cn3319 bd2076 bc_0 (by decide) (by decide)
                rw [hQ]
                exact kz_v hx hb hr hlocks hS hp2071 hw ⟨ok2073, (Fr.tr (Fr.put (cq := 95000) (Fr.tr (Fr.tr (Fr.put (cq := 13065) (Fr.put (cq := 13064) (Fr.put (cq := 13063) (Fr.rf) eh2 kd900 (cd_o (by decide)) (by decide)) eh5 kd900 (cd_o (by decide)) (by decide)) eh8 kd900 (cd_o (by decide)) (by decide)) F12 (by decide)) F142 (by decide)) eh193 kd191 (cd_a (by decide)) (by decide)) F2072 (by decide))⟩ (Nat.le_of_ble_eq_true rfl) (Nat.le_of_ble_eq_true rfl) dX12_fillsBook_221
              · skip
                have bd3321 : (0 : Int) ≤ zi2070.toInt ∧ zi2070.toInt ≤ 4 := r_le_y (Int32.not_lt.mp cn3319) bc_0 bd2076 (by decide) (by decide)
                have eq3322 : hp2071 qa900 56 = .ref qa190 := Eq.trans (Fr.at (cq := 13056) F2072 kd900 (cd_o (by decide)) (by decide)) (Eq.trans (up_at eh193 (Or.inl (kd_ne kd900 kd191 (by decide)))) eq189)
                refine lv_aload_n hx hb dX12_fillsBook_68 rfl (lv_at hl 0 rfl) ?_
                refine p_get (ci := 12) (v := .ref qa190) (C := RX12) (T := TX12) (N := 69) hx hb hT iw_X12 hown hK hw hW kd900 (by decide) rfl rfl 56 (by decide) eq3322 (hT _ tb_1430) (fun _ h9 => h9) dX12_fillsBook_69 ?_
                refine lv_iload_n hx hb dX12_fillsBook_72 rfl (lv_at hl 2 rfl) ?_
                refine lv_dup2_11 hx hb dX12_fillsBook_73 rfl rfl ?_
                obtain ⟨zi3324, eq3323, bd3325⟩ := rd_95000 ok2073 kd191 ((zi2070 : Int32).toNatClampNeg)
                refine p_iald (v := zi3324) hx hb hK hw hW kd191 (by decide) rfl (hW.len kd191 (n := 6) rfl (by decide)) (vp_b bd3321 (by decide) (by decide)) eq3323 dX12_fillsBook_74 ?_
                have sb3326 := jx2075 (zi2070 : Int32).toNatClampNeg (by have := clampN (x := zi2070) (by omega); omega)
                rw [mA_of eq3322 eq3323] at sb3326
                have bd3327 : (-1 : Int) ≤ zi3324.toInt ∧ zi3324.toInt ≤ 15 := (by omega)
                refine lv_iconst (v := 1) hx hb dX12_fillsBook_75 (by decide) ?_
                refine lv_iadd hx hb dX12_fillsBook_76 (lv_topi (fun zi3328 ea3329 => ?_))
                have bd3330 : (0 : Int) ≤ zi3328.toInt ∧ zi3328.toInt ≤ 16 := b_iadd ea3329 bd3327 bc_1 (by decide) (by decide) (by decide) (by decide)
                have qe3331 : zi3328.toInt = (zi3324 : Int32).toInt + (1 : Int32).toInt := e_iadd ea3329 bd3327 bc_1 (by decide) (by decide)
                have qe3332 : zi3328.toInt = zi3324.toInt + 1 := by have ha : (1 : Int32).toInt = 1 := (by decide); rw [ha] at qe3331; exact qe3331
                refine p_iast (x := zi3328) hx hb hK hw hS hW kd191 (by decide) rfl (hW.len kd191 (n := 6) rfl (by decide)) (vp_b bd3321 (by decide) (by decide)) dX12_fillsBook_77 (fun hp3333 eh3334 H locs hw hS => ?_)
                have ok3335 := wr_95000 bd3330 (by decide) (by decide) ok2073 kd191 eh3334
                refine lv_aload_n hx hb dX12_fillsBook_78 rfl (lv_at hl 0 rfl) ?_
                have eq3336 : hp3333 qa900 56 = .ref qa190 := Eq.trans (up_at eh3334 (Or.inl (kd_ne kd900 kd191 (by decide)))) eq3322
                refine p_get (ci := 12) (v := .ref qa190) (C := RX12) (T := TX12) (N := 69) hx hb hT iw_X12 hown hK hw hW kd900 (by decide) rfl rfl 56 (by decide) eq3336 (hT _ tb_1430) (fun _ h9 => h9) dX12_fillsBook_79 ?_
                refine lv_iload_n hx hb dX12_fillsBook_82 rfl (lv_at hl 2 rfl) ?_
                refine p_iald (v := zi3328) hx hb hK hw hW kd191 (by decide) rfl (hW.len kd191 (n := 6) rfl (by decide)) (vp_b bd3321 (by decide) (by decide)) (hp_self eh3334) dX12_fillsBook_83 ?_
                refine lv_aload_n hx hb dX12_fillsBook_84 rfl (lv_at hl 0 rfl) ?_
                obtain ⟨qa3338, eq3337, kd3339⟩ := rd_13028 ok3335 kd900
                refine p_get (ci := 12) (v := .ref qa3338) (C := RX12) (T := TX12) (N := 69) hx hb hT iw_X12 hown hK hw hW kd900 (by decide) rfl rfl 28 (by decide) eq3337 (hT _ tb_1402) (fun _ h9 => h9) dX12_fillsBook_85 ?_
                refine lv_aload_n hx hb dX12_fillsBook_88 rfl (lv_at hl 0 rfl) ?_
                obtain ⟨zi3341, eq3340, bd3342⟩ := rd_13018 ok3335 kd900
                refine p_get (ci := 12) (v := .int zi3341) (C := RX12) (T := TX12) (N := 69) hx hb hT iw_X12 hown hK hw hW kd900 (by decide) rfl rfl 18 (by decide) eq3340 (hT _ tb_1392) (fun _ h9 => h9) dX12_fillsBook_89 ?_
                obtain ⟨zi3344, eq3343, bd3345⟩ := rd_74000 ok3335 kd3339 ((zi3341 : Int32).toNatClampNeg)
                refine p_iald (v := zi3344) hx hb hK hw hW kd3339 (by decide) rfl (hW.len kd3339 (n := 2) rfl (by decide)) (vp_b bd3342 (by decide) (by decide)) eq3343 dX12_fillsBook_92 ?_
                refine lv_icmp_lt (tgt := 102) hx hb dX12_fillsBook_93 (by decide) (fun cn3346 => ?_) (fun cn3346 => ?_)
                · skip
                  have tf3347 : zi3328.toInt < zi3344.toInt := (fa_lt _ _).mp cn3346
                  have bd3348 : (0 : Int) ≤ zi3328.toInt ∧ zi3328.toInt ≤ 15 := r_lt_x cn3346 bd3330 bd3345 (by decide) (by decide)
                  have bd3349 : (-1 : Int) ≤ zi3324.toInt ∧ zi3324.toInt ≤ 14 := (by have := qe3332; have := bd3348; have := bd3327; have := bc_1; omega)
                  have bd3350 : (1 : Int) ≤ zi3344.toInt ∧ zi3344.toInt ≤ 16 := r_lt_y cn3346 bd3330 bd3345 (by decide) (by decide)
                  refine lv_iconst (v := 0) hx hb dX12_fillsBook_102 (by decide) ?_
                  refine lv_istore_n (lv' := [(3, .int 0), (0, .ref qa900), (1, .int zi901), (2, .int zi2070)]) hx hb dX12_fillsBook_103 rfl hl (by decide) rfl (fun ls hl => ?_)
                  have lp3591 : ∀ (n3589 : Nat) (hp3529 : Nat → Nat → Value) (zi3528 : Int32) (H : Heap) (locs : List Loc) (ls : Array Slot), 40 - zi3528.toInt < (n3589 : Int) → Ok K hp3529 → Fr [93000] K hp3333 hp3529 → ((0 : Int) ≤ zi3528.toInt ∧ zi3528.toInt ≤ 40) → lv_has ls 4 [(0, .ref qa900), (1, .int zi901), (2, .int zi2070), (3, .int zi3528)] → PW G cy K ln Ls A hp3529 H → va_S A s.heap H locs → W p l e ({ frames := 4, cells := 0, slots := 0, locals := 103 } : Room) s m ([.ref qa900, .int zi901] : List Value).toArray below meth c H locs 0 0 Q (F0 m 104 ls []) := by
                    intro n3589
                    induction n3589 with
                    | zero =>
                      intro hp3529 zi3528 H locs ls hm3592 ok3531 F3530 bd3532 hl hw hS
                      exact absurd hm3592 (by have := bd3532; omega)
                    | succ n3589 ih3590 =>
                      intro hp3529 zi3528 H locs ls hm3592 ok3531 F3530 bd3532 hl hw hS
                      refine lv_iload_n hx hb dX12_fillsBook_104 rfl (lv_at hl 3 rfl) ?_
                      refine lv_bipush (v := 40) hx hb dX12_fillsBook_105 (by decide) ?_
                      refine lv_icmp_ge (tgt := 133) hx hb dX12_fillsBook_107 (by decide) (fun cn3593 => ?_) (fun cn3593 => ?_)
                      · skip
                        have bd3594 : (40 : Int) ≤ zi3528.toInt ∧ zi3528.toInt ≤ 40 := r_le_y cn3593 bc_40 bd3532 (by decide) (by decide)
                        refine lv_aload_n hx hb dX12_fillsBook_133 rfl (lv_at hl 0 rfl) ?_
                        refine lv_aload_n hx hb dX12_fillsBook_134 rfl (lv_at hl 0 rfl) ?_
                        have eq3595 : hp3529 qa900 56 = .ref qa190 := Eq.trans (Fr.at (cq := 13056) F3530 kd900 (cd_o (by decide)) (by decide)) eq3336
                        refine p_get (ci := 12) (v := .ref qa190) (C := RX12) (T := TX12) (N := 69) hx hb hT iw_X12 hown hK hw hW kd900 (by decide) rfl rfl 56 (by decide) eq3595 (hT _ tb_1430) (fun _ h9 => h9) dX12_fillsBook_135 ?_
                        refine lv_iload_n hx hb dX12_fillsBook_138 rfl (lv_at hl 2 rfl) ?_
                        have eq3596 : hp3529 qa190 (zi2070 : Int32).toNatClampNeg = .int zi3328 := Eq.trans (Fr.at (cq := 95000) F3530 kd191 (cd_a (by decide)) (by decide)) (hp_self eh3334)
                        refine p_iald (v := zi3328) hx hb hK hw hW kd191 (by decide) rfl (hW.len kd191 (n := 6) rfl (by decide)) (vp_b bd3321 (by decide) (by decide)) eq3596 dX12_fillsBook_139 ?_
                        have pd3597 : LW hp3529 qa900 := LW_fr ok0 kd900 (show Fr [13048, 13051, 13063, 13064, 13065, 90000, 91000, 93000, 95000, 100000] K hp0 hp3529 from (Fr.tr (Fr.put (cq := 95000) (Fr.tr (Fr.put (cq := 95000) (Fr.tr (Fr.tr (Fr.put (cq := 13065) (Fr.put (cq := 13064) (Fr.put (cq := 13063) (Fr.rf) eh2 kd900 (cd_o (by decide)) (by decide)) eh5 kd900 (cd_o (by decide)) (by decide)) eh8 kd900 (cd_o (by decide)) (by decide)) F12 (by decide)) F142 (by decide)) eh193 kd191 (cd_a (by decide)) (by decide)) F2072 (by decide)) eh3334 kd191 (cd_a (by decide)) (by decide)) F3530 (by decide))) (by decide) pdLW
                        refine kq_i hw hS hA (va_runV (As := [.int zi3328]) (rest := []) ⟨hx, hb, hml, hown, hT⟩ (cX12_sayNow_0 l G cy ev K ln Ls hW _ hp3529 ok3531 qa900 zi3328 kd900 (b_wid2 bd3348 (by decide) (by decide)) pd3597) (cwV 1 hT (good_V tb_1809 tb_1806 tb_1808 tb_87 tb_122) rfl rfl rfl (by decide +kernel) ⟨Nat.le_of_ble_eq_true rfl, Nat.le_of_ble_eq_true rfl⟩) (pool_preV (ci := 12) hK hE hS hA hw hW kd900 (by decide) rfl) rfl rfl hl.1 rfl (lv_room (Nat.le_of_ble_eq_true rfl)) dX12_fillsBook_140 ⟨Nat.le_of_ble_eq_true rfl, Nat.le_of_ble_eq_true rfl⟩) (fun zi3602 hp3598 H locs hq3601 hw hS => ?_)
                        obtain ⟨ok3599, F3600, bd3603⟩ := hq3601
                        have hw : PW G cy K ln Ls A hp3598 H := hw
                        refine lv_pop hx hb dX12_fillsBook_143 rfl ?_
                        refine lv_aload_n hx hb dX12_fillsBook_144 rfl (lv_at hl 0 rfl) ?_
                        obtain ⟨qa3605, eq3604, kd3606⟩ := rd_13050 ok3599 kd900
                        refine p_get (ci := 12) (v := .ref qa3605) (C := RX12) (T := TX12) (N := 69) hx hb hT iw_X12 hown hK hw hW kd900 (by decide) rfl rfl 50 (by decide) eq3604 (hT _ tb_1424) (fun _ h9 => h9) dX12_fillsBook_145 ?_
                        refine lv_iconst (v := 0) hx hb dX12_fillsBook_148 (by decide) ?_
                        obtain ⟨zi3608, eq3607⟩ := rd_93000 ok3599 kd3606 ((0 : Int32).toNatClampNeg)
                        refine p_iald (v := zi3608) hx hb hK hw hW kd3606 (by decide) rfl (hW.len kd3606 (n := 40) rfl (by decide)) (vp_b bc_0 (by decide) (by decide)) eq3607 dX12_fillsBook_149 ?_
                        refine lv_aload_n hx hb dX12_fillsBook_150 rfl (lv_at hl 0 rfl) ?_
                        obtain ⟨qa3610, eq3609, kd3611⟩ := rd_13062 ok3599 kd900
                        refine p_get (ci := 12) (v := .ref qa3610) (C := RX12) (T := TX12) (N := 69) hx hb hT iw_X12 hown hK hw hW kd900 (by decide) rfl rfl 62 (by decide) eq3609 (hT _ tb_1436) (fun _ h9 => h9) dX12_fillsBook_151 ?_
                        refine lv_iload_n hx hb dX12_fillsBook_154 rfl (lv_at hl 2 rfl) ?_
                        obtain ⟨zi3613, eq3612⟩ := rd_99000 ok3599 kd3611 ((zi2070 : Int32).toNatClampNeg)
                        refine p_iald (v := zi3613) hx hb hK hw hW kd3611 (by decide) rfl (hW.len kd3611 (n := 5) rfl (by decide)) (vp_b bd3321 (by decide) (by decide)) eq3612 dX12_fillsBook_155 ?_
                        refine lv_icmp_eq (tgt := 162) hx hb dX12_fillsBook_156 (by decide) (fun cn3614 => ?_) (fun cn3614 => ?_)
                        · skip
                          have tf3615 : zi3608.toInt = zi3613.toInt := congrArg Int32.toInt cn3614
                          refine lv_iload_n hx hb dX12_fillsBook_162 rfl (lv_at hl 2 rfl) ?_
                          refine lv_iload_n hx hb dX12_fillsBook_163 rfl (lv_at hl 1 rfl) ?_
                          refine lv_iconst (v := 1) hx hb dX12_fillsBook_164 (by decide) ?_
                          refine lv_isub hx hb dX12_fillsBook_165 (lv_topi (fun zi3616 ea3617 => ?_))
                          have bd3618 : (0 : Int) ≤ zi3616.toInt ∧ zi3616.toInt ≤ 4 := b_isub ea3617 bd17 bc_1 (by decide) (by decide) (by decide) (by decide)
                          have qe3619 : zi3616.toInt = (zi901 : Int32).toInt - (1 : Int32).toInt := e_isub ea3617 bd17 bc_1 (by decide) (by decide)
                          have qe3620 : zi3616.toInt = zi901.toInt - 1 := by have ha : (1 : Int32).toInt = 1 := (by decide); rw [ha] at qe3619; exact qe3619
                          refine lv_icmp_ne (tgt := 177) hx hb dX12_fillsBook_166 (by decide) (fun cn3621 => ?_) (fun cn3621 => ?_)
                          · skip
                            have tf3622 : (zi2070 : Int32).toInt ≠ (zi3616 : Int32).toInt := fun e => cn3621 (Int32.toInt_inj.mp e)
                            have bd3623 : (0 : Int) ≤ zi2070.toInt ∧ zi2070.toInt ≤ 3 := (by omega)
                            obtain ⟨zi3624, ea3625⟩ : ∃ z : Int32, z = zi2070 + 1 := ⟨_, rfl⟩
                            have bd3626 : (1 : Int) ≤ zi3624.toInt ∧ zi3624.toInt ≤ 4 := b_iadd ea3625 bd3623 bc_1 (by decide) (by decide) (by decide) (by decide)
                            have qe3627 : zi3624.toInt = (zi2070 : Int32).toInt + (1 : Int32).toInt := e_iadd ea3625 bd3623 bc_1 (by decide) (by decide)
                            have qe3628 : zi3624.toInt = zi2070.toInt + 1 := by have ha : (1 : Int32).toInt = 1 := (by decide); rw [ha] at qe3627; exact qe3627
                            refine lv_iinc (v := zi3624) (lv' := [(2, .int zi3624), (0, .ref qa900), (1, .int zi901), (3, .int zi3528)]) hx hb dX12_fillsBook_177 hl (k := 2) rfl ea3625.symm (by decide) rfl (fun ls hl => ?_)
                            refine lv_iconst (v := 0) hx hb dX12_fillsBook_180 (by decide) ?_
                            refine lv_istore_n (lv' := [(3, .int 0), (2, .int zi3624), (0, .ref qa900), (1, .int zi901)]) hx hb dX12_fillsBook_181 rfl hl (by decide) rfl (fun ls hl => ?_)
                            have lp3850 : ∀ (n3848 : Nat) (hp3792 : Nat → Nat → Value) (zi3791 : Int32) (H : Heap) (locs : List Loc) (ls : Array Slot), 40 - zi3791.toInt < (n3848 : Int) → Ok K hp3792 → Fr [100000] K hp3598 hp3792 → ((0 : Int) ≤ zi3791.toInt ∧ zi3791.toInt ≤ 40) → lv_has ls 4 [(0, .ref qa900), (1, .int zi901), (2, .int zi3624), (3, .int zi3791)] → PW G cy K ln Ls A hp3792 H → va_S A s.heap H locs → W p l e ({ frames := 4, cells := 0, slots := 0, locals := 103 } : Room) s m ([.ref qa900, .int zi901] : List Value).toArray below meth c H locs 0 0 Q (F0 m 182 ls []) := by
                              intro n3848
                              induction n3848 with
                              | zero =>
                                intro hp3792 zi3791 H locs ls hm3851 ok3794 F3793 bd3795 hl hw hS
                                exact absurd hm3851 (by have := bd3795; omega)
                              | succ n3848 ih3849 =>
                                intro hp3792 zi3791 H locs ls hm3851 ok3794 F3793 bd3795 hl hw hS
                                refine lv_iload_n hx hb dX12_fillsBook_182 rfl (lv_at hl 3 rfl) ?_
                                refine lv_bipush (v := 40) hx hb dX12_fillsBook_183 (by decide) ?_
                                refine lv_icmp_ge (tgt := 211) hx hb dX12_fillsBook_185 (by decide) (fun cn3852 => ?_) (fun cn3852 => ?_)
                                · skip
                                  have bd3853 : (40 : Int) ≤ zi3791.toInt ∧ zi3791.toInt ≤ 40 := r_le_y cn3852 bc_40 bd3795 (by decide) (by decide)
                                  refine lv_aload_n hx hb dX12_fillsBook_211 rfl (lv_at hl 0 rfl) ?_
                                  have eq3854 : hp3792 qa900 56 = .ref qa190 := Eq.trans (Fr.at (cq := 13056) F3793 kd900 (cd_o (by decide)) (by decide)) (Eq.trans (Fr.at (cq := 13056) F3600 kd900 (cd_o (by decide)) (by decide)) eq3595)
                                  refine p_get (ci := 12) (v := .ref qa190) (C := RX12) (T := TX12) (N := 69) hx hb hT iw_X12 hown hK hw hW kd900 (by decide) rfl rfl 56 (by decide) eq3854 (hT _ tb_1430) (fun _ h9 => h9) dX12_fillsBook_212 ?_
                                  refine lv_iload_n hx hb dX12_fillsBook_215 rfl (lv_at hl 2 rfl) ?_
                                  refine lv_iconst (v := (-1)) hx hb dX12_fillsBook_216 (by decide) ?_
                                  refine p_iast (x := (-1)) hx hb hK hw hS hW kd191 (by decide) rfl (hW.len kd191 (n := 6) rfl (by decide)) (vp_b bd3626 (by decide) (by decide)) dX12_fillsBook_217 (fun hp3855 eh3856 H locs hw hS => ?_)
                                  have ok3857 := wr_95000 bc_m1 (by decide) (by decide) ok3794 kd191 eh3856
                                  have mz3861 := mA_up (h1 := hp3333) (f := 56) eq3322 (Eq.trans (up_at eh3334 (Or.inl (kd_ne kd900 kd191 (by decide)))) eq3322) rfl eh3334 rfl
                                  have mz3862 := mA_up (h := hp3333) (h1 := hp3855) (f := 56) (Eq.trans (up_at eh3334 (Or.inl (kd_ne kd900 kd191 (by decide)))) eq3322) (Eq.trans (Eq.trans (up_at eh3856 (Or.inl (kd_ne kd900 kd191 (by decide)))) (Eq.trans (Fr.at (cq := 13056) F3793 kd900 (cd_o (by decide)) (by decide)) (Eq.trans (Fr.at (cq := 13056) F3600 kd900 (cd_o (by decide)) (by decide)) (Eq.trans (Fr.at (cq := 13056) F3530 kd900 (cd_o (by decide)) (by decide)) (up_at eh3334 (Or.inl (kd_ne kd900 kd191 (by decide)))))))) eq3322) (Eq.trans (show hp3792 qa190 = hp3598 qa190 from (funext fun i => Fr.at (cq := 95000) F3793 kd191 (cd_a (by decide)) (by decide))) (Eq.trans (show hp3598 qa190 = hp3529 qa190 from (funext fun i => Fr.at (cq := 95000) F3600 kd191 (cd_a (by decide)) (by decide))) (show hp3529 qa190 = hp3333 qa190 from (funext fun i => Fr.at (cq := 95000) F3530 kd191 (cd_a (by decide)) (by decide))))) eh3856 rfl
                                  have mz3863 := mz3862.trans (congrArg (fun f => updI f _ _) mz3861)
                                  have me3858 : mA hp3855 qa900 56 = updI (updI (mA hp2071 qa900 56) (zi2070 : Int32).toNatClampNeg (zi3328 : Int32).toInt) (zi3624 : Int32).toNatClampNeg (-1) := by rw [show (-1 : Int) = (-1 : Int32).toInt from by decide]; exact mz3863
                                  have me3858a : mA hp3855 qa900 56 = updI (updI (mA hp2071 qa900 56) (zi2070 : Int32).toNatClampNeg (mA hp2071 qa900 56 (zi2070 : Int32).toNatClampNeg + 1)) (zi3624 : Int32).toNatClampNeg (-1) := by rw [me3858, show (zi3328 : Int32).toInt = mA hp2071 qa900 56 (zi2070 : Int32).toNatClampNeg + 1 from by rw [mA_of eq3322 eq3323]; omega]
                                  have vb3859 := VBx_up (clampN (x := zi2070) (by omega)) (by omega) (show (zi3624 : Int32).toInt = _ from by omega) (clampN (x := zi3624) (by omega)) me3858a
                                  have sb3860 : SBx (mA hp3855 qa900 56) (zi3624 : Int32).toInt := by rw [me3858]; exact SBx_up jx2075 (by omega) (clampN (x := zi3624) (by omega)) (by omega)
                                  refine lv_goto (tgt := 64) hx hb dX12_fillsBook_218 (by decide) ?_
                                  exact ih3316 hp3855 zi3624 _ _ ls (by have := hm3318; have := vb3859; omega) ok3857 (Fr.put (cq := 95000) (Fr.tr (Fr.tr (Fr.tr (Fr.put (cq := 95000) (Fr.tr (Fr.rf) F2072 (by decide)) eh3334 kd191 (cd_a (by decide)) (by decide)) F3530 (by decide)) F3600 (by decide)) F3793 (by decide)) eh3856 kd191 (cd_a (by decide)) (by decide)) (b_wid2 bd3626 (by decide) (by decide)) (by omega) sb3860 (lv_sub hl [0, 1, 2] rfl) hw hS
                                · skip
                                  have bd3864 : (0 : Int) ≤ zi3791.toInt ∧ zi3791.toInt ≤ 39 := r_lt_x (Int32.not_le.mp cn3852) bd3795 bc_40 (by decide) (by decide)
                                  refine lv_aload_n hx hb dX12_fillsBook_188 rfl (lv_at hl 0 rfl) ?_
                                  obtain ⟨qa3866, eq3865, kd3867⟩ := rd_13066 ok3794 kd900
                                  refine p_get (ci := 12) (v := .ref qa3866) (C := RX12) (T := TX12) (N := 69) hx hb hT iw_X12 hown hK hw hW kd900 (by decide) rfl rfl 66 (by decide) eq3865 (hT _ tb_1440) (fun _ h9 => h9) dX12_fillsBook_189 ?_
                                  refine lv_bipush (v := 40) hx hb dX12_fillsBook_192 (by decide) ?_
                                  refine lv_iload_n hx hb dX12_fillsBook_194 rfl (lv_at hl 2 rfl) ?_
                                  refine lv_imul hx hb dX12_fillsBook_195 (lv_topi (fun zi3868 ea3869 => ?_))
                                  have bd3870 : (40 : Int) ≤ zi3868.toInt ∧ zi3868.toInt ≤ 160 := b_imul ea3869 bc_40 bd3626 (by decide) (by decide) (by decide) (by decide) (by decide)
                                  have qe3871 : zi3868.toInt = (40 : Int32).toInt * (zi3624 : Int32).toInt := e_imul (b := 40) (d := 4) ea3869 (b_wid2 bc_40 (by decide) (by decide)) (b_wid2 bd3626 (by decide) (by decide)) (by decide)
                                  have qe3872 : zi3868.toInt = 40 * zi3624.toInt := by have ha : (40 : Int32).toInt = 40 := (by decide); rw [ha] at qe3871; exact qe3871
                                  refine lv_iload_n hx hb dX12_fillsBook_196 rfl (lv_at hl 3 rfl) ?_
                                  refine lv_iadd hx hb dX12_fillsBook_197 (lv_topi (fun zi3873 ea3874 => ?_))
                                  have bd3875 : (40 : Int) ≤ zi3873.toInt ∧ zi3873.toInt ≤ 199 := b_iadd ea3874 bd3870 bd3864 (by decide) (by decide) (by decide) (by decide)
                                  have qe3876 : zi3873.toInt = zi3868.toInt + zi3791.toInt := e_iadd ea3874 bd3870 bd3864 (by decide) (by decide)
                                  refine lv_aload_n hx hb dX12_fillsBook_198 rfl (lv_at hl 0 rfl) ?_
                                  have eq3877 : hp3792 qa900 50 = .ref qa3605 := Eq.trans (Fr.at (cq := 13050) F3793 kd900 (cd_o (by decide)) (by decide)) eq3604
                                  refine p_get (ci := 12) (v := .ref qa3605) (C := RX12) (T := TX12) (N := 69) hx hb hT iw_X12 hown hK hw hW kd900 (by decide) rfl rfl 50 (by decide) eq3877 (hT _ tb_1424) (fun _ h9 => h9) dX12_fillsBook_199 ?_
                                  refine lv_iload_n hx hb dX12_fillsBook_202 rfl (lv_at hl 3 rfl) ?_
                                  obtain ⟨zi3879, eq3878⟩ := rd_93000 ok3794 kd3606 ((zi3791 : Int32).toNatClampNeg)
                                  refine p_iald (v := zi3879) hx hb hK hw hW kd3606 (by decide) rfl (hW.len kd3606 (n := 40) rfl (by decide)) (vp_b bd3864 (by decide) (by decide)) eq3878 dX12_fillsBook_203 ?_
                                  refine p_iast (x := zi3879) hx hb hK hw hS hW kd3867 (by decide) rfl (hW.len kd3867 (n := 240) rfl (by decide)) (vp_b bd3875 (by decide) (by decide)) dX12_fillsBook_204 (fun hp3880 eh3881 H locs hw hS => ?_)
                                  have ok3882 := wr_100000 ok3794 kd3867 eh3881
                                  obtain ⟨zi3883, ea3884⟩ : ∃ z : Int32, z = zi3791 + 1 := ⟨_, rfl⟩
                                  have bd3885 : (1 : Int) ≤ zi3883.toInt ∧ zi3883.toInt ≤ 40 := b_iadd ea3884 bd3864 bc_1 (by decide) (by decide) (by decide) (by decide)
                                  have qe3886 : zi3883.toInt = (zi3791 : Int32).toInt + (1 : Int32).toInt := e_iadd ea3884 bd3864 bc_1 (by decide) (by decide)
                                  have qe3887 : zi3883.toInt = zi3791.toInt + 1 := by have ha : (1 : Int32).toInt = 1 := (by decide); rw [ha] at qe3886; exact qe3886
                                  refine lv_iinc (v := zi3883) (lv' := [(3, .int zi3883), (0, .ref qa900), (1, .int zi901), (2, .int zi3624)]) hx hb dX12_fillsBook_205 hl (k := 3) rfl ea3884.symm (by decide) rfl (fun ls hl => ?_)
                                  refine lv_goto (tgt := 182) hx hb dX12_fillsBook_208 (by decide) ?_
                                  exact ih3849 hp3880 zi3883 _ _ ls (by have := hm3851; have := qe3887; omega) ok3882 (Fr.put (cq := 100000) (Fr.tr (Fr.rf) F3793 (by decide)) eh3881 kd3867 (cd_a (by decide)) (by decide)) (b_wid2 bd3885 (by decide) (by decide)) (lv_sub hl [1, 2, 3, 0] rfl) hw hS
                            exact lp3850 _ hp3598 0 _ _ ls (lp_in _) ok3599 (Fr.rf) (b_wid2 bc_0 (by decide) (by decide)) (lv_sub hl [2, 3, 1, 0] rfl) hw hS
                          · skip
                            have tf3888 : zi2070.toInt = zi3616.toInt := congrArg Int32.toInt cn3621
                            refine lv_aload_n hx hb dX12_fillsBook_169 rfl (lv_at hl 0 rfl) ?_
                            refine lv_iload_n hx hb dX12_fillsBook_170 rfl (lv_at hl 1 rfl) ?_
                            refine kq_v hw hS hA (va_runV (As := [.int zi901]) (rest := []) ⟨hx, hb, hml, hown, hT⟩ (cX12_fitsOne_0 l G cy ev K ln Ls hW _ hp3598 ok3599 qa900 zi901 kd900 (b_wid2 bd17 (by decide) (by decide))) (cwV 1 hT (good_V tb_1941 tb_1938 tb_1940 tb_103 tb_122) rfl rfl rfl (by decide +kernel) ⟨Nat.le_of_ble_eq_true rfl, Nat.le_of_ble_eq_true rfl⟩) (pool_preV (ci := 12) hK hE hS hA hw hW kd900 (by decide) rfl) rfl rfl hl.1 rfl (lv_room (Nat.le_of_ble_eq_true rfl)) dX12_fillsBook_171 ⟨Nat.le_of_ble_eq_true rfl, Nat.le_of_ble_eq_true rfl⟩) (fun hp3889 H locs hq3892 hw hS => ?_)
                            obtain ⟨ok3890, F3891⟩ := hq3892
                            have hw : PW G cy K ln Ls A hp3889 H := hw
                            have eq3897 : hp3889 qa900 56 = .ref qa190 := Eq.trans (Fr.at (cq := 13056) F3891 kd900 (cd_o (by decide)) (by decide)) (Eq.trans (Fr.at (cq := 13056) F3600 kd900 (cd_o (by decide)) (by decide)) eq3595)
                            have me3894 : mA hp3889 qa900 56 = updI (mA hp2071 qa900 56) (zi2070 : Int32).toNatClampNeg (zi3328 : Int32).toInt := (mA_up eq3322 eq3897 rfl eh3334 (Eq.trans (show hp3889 qa190 = hp3598 qa190 from (funext fun i => Fr.at (cq := 95000) F3891 kd191 (cd_a (by decide)) (by decide))) (Eq.trans (show hp3598 qa190 = hp3529 qa190 from (funext fun i => Fr.at (cq := 95000) F3600 kd191 (cd_a (by decide)) (by decide))) (show hp3529 qa190 = hp3333 qa190 from (funext fun i => Fr.at (cq := 95000) F3530 kd191 (cd_a (by decide)) (by decide))))))
                            have me3894a : mA hp3889 qa900 56 = updI (mA hp2071 qa900 56) (zi2070 : Int32).toNatClampNeg (mA hp2071 qa900 56 (zi2070 : Int32).toNatClampNeg + 1) := by rw [me3894, show (zi3328 : Int32).toInt = mA hp2071 qa900 56 (zi2070 : Int32).toNatClampNeg + 1 from by rw [mA_of eq3322 eq3323]; omega]
                            have vb3895 := VBx_stay (clampN (x := zi2070) (by omega)) (by omega) me3894a
                            have sb3896 : SBx (mA hp3889 qa900 56) (zi2070 : Int32).toInt := by rw [me3894]; exact SBx_put jx2075 (by omega) (Or.inl (by omega))
                            refine lv_goto (tgt := 64) hx hb dX12_fillsBook_174 (by decide) ?_
                            exact ih3316 hp3889 zi2070 _ _ ls (by have := hm3318; have := vb3895; omega) ok3890 (Fr.tr (Fr.tr (Fr.tr (Fr.put (cq := 95000) (Fr.tr (Fr.rf) F2072 (by decide)) eh3334 kd191 (cd_a (by decide)) (by decide)) F3530 (by decide)) F3600 (by decide)) F3891 (by decide)) (b_wid2 bd3321 (by decide) (by decide)) (by omega) sb3896 (lv_sub hl [0, 1, 2] rfl) hw hS
                        · skip
                          have tf3898 : (zi3608 : Int32).toInt ≠ (zi3613 : Int32).toInt := fun e => cn3614 (Int32.toInt_inj.mp e)
                          have eq3902 : hp3598 qa900 56 = .ref qa190 := Eq.trans (Fr.at (cq := 13056) F3600 kd900 (cd_o (by decide)) (by decide)) eq3595
                          have me3899 : mA hp3598 qa900 56 = updI (mA hp2071 qa900 56) (zi2070 : Int32).toNatClampNeg (zi3328 : Int32).toInt := (mA_up eq3322 eq3902 rfl eh3334 (Eq.trans (show hp3598 qa190 = hp3529 qa190 from (funext fun i => Fr.at (cq := 95000) F3600 kd191 (cd_a (by decide)) (by decide))) (show hp3529 qa190 = hp3333 qa190 from (funext fun i => Fr.at (cq := 95000) F3530 kd191 (cd_a (by decide)) (by decide)))))
                          have me3899a : mA hp3598 qa900 56 = updI (mA hp2071 qa900 56) (zi2070 : Int32).toNatClampNeg (mA hp2071 qa900 56 (zi2070 : Int32).toNatClampNeg + 1) := by rw [me3899, show (zi3328 : Int32).toInt = mA hp2071 qa900 56 (zi2070 : Int32).toNatClampNeg + 1 from by rw [mA_of eq3322 eq3323]; omega]
                          have vb3900 := VBx_stay (clampN (x := zi2070) (by omega)) (by omega) me3899a
                          have sb3901 : SBx (mA hp3598 qa900 56) (zi2070 : Int32).toInt := by rw [me3899]; exact SBx_put jx2075 (by omega) (Or.inl (by omega))
                          refine lv_goto (tgt := 64) hx hb dX12_fillsBook_159 (by decide) ?_
                          exact ih3316 hp3598 zi2070 _ _ ls (by have := hm3318; have := vb3900; omega) ok3599 (Fr.tr (Fr.tr (Fr.put (cq := 95000) (Fr.tr (Fr.rf) F2072 (by decide)) eh3334 kd191 (cd_a (by decide)) (by decide)) F3530 (by decide)) F3600 (by decide)) (b_wid2 bd3321 (by decide) (by decide)) (by omega) sb3901 (lv_sub hl [0, 1, 2] rfl) hw hS
                      · skip
                        have bd3903 : (0 : Int) ≤ zi3528.toInt ∧ zi3528.toInt ≤ 39 := r_lt_x (Int32.not_le.mp cn3593) bd3532 bc_40 (by decide) (by decide)
                        refine lv_aload_n hx hb dX12_fillsBook_110 rfl (lv_at hl 0 rfl) ?_
                        obtain ⟨qa3905, eq3904, kd3906⟩ := rd_13050 ok3531 kd900
                        refine p_get (ci := 12) (v := .ref qa3905) (C := RX12) (T := TX12) (N := 69) hx hb hT iw_X12 hown hK hw hW kd900 (by decide) rfl rfl 50 (by decide) eq3904 (hT _ tb_1424) (fun _ h9 => h9) dX12_fillsBook_111 ?_
                        refine lv_iload_n hx hb dX12_fillsBook_114 rfl (lv_at hl 3 rfl) ?_
                        refine lv_aload_n hx hb dX12_fillsBook_115 rfl (lv_at hl 0 rfl) ?_
                        obtain ⟨qa3908, eq3907, kd3909⟩ := rd_13066 ok3531 kd900
                        refine p_get (ci := 12) (v := .ref qa3908) (C := RX12) (T := TX12) (N := 69) hx hb hT iw_X12 hown hK hw hW kd900 (by decide) rfl rfl 66 (by decide) eq3907 (hT _ tb_1440) (fun _ h9 => h9) dX12_fillsBook_116 ?_
                        refine lv_bipush (v := 40) hx hb dX12_fillsBook_119 (by decide) ?_
                        refine lv_iload_n hx hb dX12_fillsBook_121 rfl (lv_at hl 2 rfl) ?_
                        refine lv_imul hx hb dX12_fillsBook_122 (lv_topi (fun zi3910 ea3911 => ?_))
                        have bd3912 : (0 : Int) ≤ zi3910.toInt ∧ zi3910.toInt ≤ 160 := b_imul ea3911 bc_40 bd3321 (by decide) (by decide) (by decide) (by decide) (by decide)
                        have qe3913 : zi3910.toInt = (40 : Int32).toInt * (zi2070 : Int32).toInt := e_imul (b := 40) (d := 4) ea3911 (b_wid2 bc_40 (by decide) (by decide)) (b_wid2 bd3321 (by decide) (by decide)) (by decide)
                        have qe3914 : zi3910.toInt = 40 * zi2070.toInt := by have ha : (40 : Int32).toInt = 40 := (by decide); rw [ha] at qe3913; exact qe3913
                        refine lv_iload_n hx hb dX12_fillsBook_123 rfl (lv_at hl 3 rfl) ?_
                        refine lv_iadd hx hb dX12_fillsBook_124 (lv_topi (fun zi3915 ea3916 => ?_))
                        have bd3917 : (0 : Int) ≤ zi3915.toInt ∧ zi3915.toInt ≤ 199 := b_iadd ea3916 bd3912 bd3903 (by decide) (by decide) (by decide) (by decide)
                        have qe3918 : zi3915.toInt = zi3910.toInt + zi3528.toInt := e_iadd ea3916 bd3912 bd3903 (by decide) (by decide)
                        obtain ⟨zi3920, eq3919⟩ := rd_100000 ok3531 kd3909 ((zi3915 : Int32).toNatClampNeg)
                        refine p_iald (v := zi3920) hx hb hK hw hW kd3909 (by decide) rfl (hW.len kd3909 (n := 240) rfl (by decide)) (vp_b bd3917 (by decide) (by decide)) eq3919 dX12_fillsBook_125 ?_
                        refine p_iast (x := zi3920) hx hb hK hw hS hW kd3906 (by decide) rfl (hW.len kd3906 (n := 40) rfl (by decide)) (vp_b bd3903 (by decide) (by decide)) dX12_fillsBook_126 (fun hp3921 eh3922 H locs hw hS => ?_)
                        have ok3923 := wr_93000 ok3531 kd3906 eh3922
                        obtain ⟨zi3924, ea3925⟩ : ∃ z : Int32, z = zi3528 + 1 := ⟨_, rfl⟩
                        have bd3926 : (1 : Int) ≤ zi3924.toInt ∧ zi3924.toInt ≤ 40 := b_iadd ea3925 bd3903 bc_1 (by decide) (by decide) (by decide) (by decide)
                        have qe3927 : zi3924.toInt = (zi3528 : Int32).toInt + (1 : Int32).toInt := e_iadd ea3925 bd3903 bc_1 (by decide) (by decide)
                        have qe3928 : zi3924.toInt = zi3528.toInt + 1 := by have ha : (1 : Int32).toInt = 1 := (by decide); rw [ha] at qe3927; exact qe3927
                        refine lv_iinc (v := zi3924) (lv' := [(3, .int zi3924), (0, .ref qa900), (1, .int zi901), (2, .int zi2070)]) hx hb dX12_fillsBook_127 hl (k := 3) rfl ea3925.symm (by decide) rfl (fun ls hl => ?_)
                        refine lv_goto (tgt := 104) hx hb dX12_fillsBook_130 (by decide) ?_
                        exact ih3590 hp3921 zi3924 _ _ ls (by have := hm3592; have := qe3928; omega) ok3923 (Fr.put (cq := 93000) (Fr.tr (Fr.rf) F3530 (by decide)) eh3922 kd3906 (cd_a (by decide)) (by decide)) (b_wid2 bd3926 (by decide) (by decide)) (lv_sub hl [1, 2, 3, 0] rfl) hw hS
                  exact lp3591 _ hp3333 0 _ _ ls (lp_in _) ok3335 (Fr.rf) (b_wid2 bc_0 (by decide) (by decide)) (lv_sub hl [1, 2, 3, 0] rfl) hw hS
                · skip
                  have tf3929 : zi3344.toInt ≤ zi3328.toInt := (fa_le _ _).mp (Int32.not_lt.mp cn3346)
                  obtain ⟨zi3930, ea3931⟩ : ∃ z : Int32, z = zi2070 + (-1) := ⟨_, rfl⟩
                  have bd3932 : (-1 : Int) ≤ zi3930.toInt ∧ zi3930.toInt ≤ 3 := b_iadd ea3931 bd3321 bc_m1 (by decide) (by decide) (by decide) (by decide)
                  have qe3933 : zi3930.toInt = (zi2070 : Int32).toInt + ((-1) : Int32).toInt := e_iadd ea3931 bd3321 bc_m1 (by decide) (by decide)
                  have qe3934 : zi3930.toInt = zi2070.toInt + (-1) := by have ha : ((-1) : Int32).toInt = (-1) := (by decide); rw [ha] at qe3933; exact qe3933
                  refine lv_iinc (v := zi3930) (lv' := [(2, .int zi3930), (0, .ref qa900), (1, .int zi901)]) hx hb dX12_fillsBook_96 hl (k := 2) rfl ea3931.symm (by decide) rfl (fun ls hl => ?_)
                  have me3935 : mA hp3333 qa900 56 = updI (mA hp2071 qa900 56) (zi2070 : Int32).toNatClampNeg (zi3328 : Int32).toInt := (mA_up eq3322 eq3336 rfl eh3334 rfl)
                  have me3935a : mA hp3333 qa900 56 = updI (mA hp2071 qa900 56) (zi2070 : Int32).toNatClampNeg (mA hp2071 qa900 56 (zi2070 : Int32).toNatClampNeg + 1) := by rw [me3935, show (zi3328 : Int32).toInt = mA hp2071 qa900 56 (zi2070 : Int32).toNatClampNeg + 1 from by rw [mA_of eq3322 eq3323]; omega]
                  have vb3936 := VBx_down (clampN (x := zi2070) (by omega)) (by omega) me3935a (show (zi3930 : Int32).toInt = _ from by omega) (by rw [mA_of eq3322 eq3323]; omega)
                  have sb3937 : SBx (mA hp3333 qa900 56) (zi3930 : Int32).toInt := by rw [me3935]; exact SBx_put jx2075 (by omega) (Or.inr (by have := clampN (x := zi2070) (by omega); omega))
                  refine lv_goto (tgt := 64) hx hb dX12_fillsBook_99 (by decide) ?_
                  exact ih3316 hp3333 zi3930 _ _ ls (by have := hm3318; have := vb3936; omega) ok3335 (Fr.put (cq := 95000) (Fr.tr (Fr.rf) F2072 (by decide)) eh3334 kd191 (cd_a (by decide)) (by decide)) (b_wid2 bd3932 (by decide) (by decide)) (by omega) sb3937 (lv_sub hl [1, 2, 0] rfl) hw hS
          have eq3938 : hp192 qa900 56 = .ref qa190 := Eq.trans (up_at eh193 (Or.inl (kd_ne kd900 kd191 (by decide)))) eq189
          exact lp3317 _ hp192 0 _ _ ls (lp_in _) ok194 (Fr.rf) (b_wid2 bc_0 (by decide) (by decide)) (by have := toi bc_0; omega) (SBx_start (i := (0 : Int32).toNatClampNeg) (by rw [show (-1 : Int) = (-1 : Int32).toInt from by decide]; exact (mA_up eq189 eq3938 rfl eh193 rfl)) clamp_zero) (lv_sub hl [1, 2, 0] rfl) hw hS
        · skip
          have bd3939 : (0 : Int) ≤ zi140.toInt ∧ zi140.toInt ≤ 39 := r_lt_x (Int32.not_le.mp cn187) bd144 bc_40 (by decide) (by decide)
          refine lv_aload_n hx hb dX12_fillsBook_37 rfl (lv_at hl 0 rfl) ?_
          obtain ⟨qa3941, eq3940, kd3942⟩ := rd_13066 ok143 kd900
          refine p_get (ci := 12) (v := .ref qa3941) (C := RX12) (T := TX12) (N := 69) hx hb hT iw_X12 hown hK hw hW kd900 (by decide) rfl rfl 66 (by decide) eq3940 (hT _ tb_1440) (fun _ h9 => h9) dX12_fillsBook_38 ?_
          refine lv_iload_n hx hb dX12_fillsBook_41 rfl (lv_at hl 2 rfl) ?_
          refine lv_aload_n hx hb dX12_fillsBook_42 rfl (lv_at hl 0 rfl) ?_
          obtain ⟨qa3944, eq3943, kd3945⟩ := rd_13050 ok143 kd900
          refine p_get (ci := 12) (v := .ref qa3944) (C := RX12) (T := TX12) (N := 69) hx hb hT iw_X12 hown hK hw hW kd900 (by decide) rfl rfl 50 (by decide) eq3943 (hT _ tb_1424) (fun _ h9 => h9) dX12_fillsBook_43 ?_
          refine lv_iload_n hx hb dX12_fillsBook_46 rfl (lv_at hl 2 rfl) ?_
          obtain ⟨zi3947, eq3946⟩ := rd_93000 ok143 kd3945 ((zi140 : Int32).toNatClampNeg)
          refine p_iald (v := zi3947) hx hb hK hw hW kd3945 (by decide) rfl (hW.len kd3945 (n := 40) rfl (by decide)) (vp_b bd3939 (by decide) (by decide)) eq3946 dX12_fillsBook_47 ?_
          refine p_iast (x := zi3947) hx hb hK hw hS hW kd3942 (by decide) rfl (hW.len kd3942 (n := 240) rfl (by decide)) (vp_b bd3939 (by decide) (by decide)) dX12_fillsBook_48 (fun hp3948 eh3949 H locs hw hS => ?_)
          have ok3950 := wr_100000 ok143 kd3942 eh3949
          obtain ⟨zi3951, ea3952⟩ : ∃ z : Int32, z = zi140 + 1 := ⟨_, rfl⟩
          have bd3953 : (1 : Int) ≤ zi3951.toInt ∧ zi3951.toInt ≤ 40 := b_iadd ea3952 bd3939 bc_1 (by decide) (by decide) (by decide) (by decide)
          have qe3954 : zi3951.toInt = (zi140 : Int32).toInt + (1 : Int32).toInt := e_iadd ea3952 bd3939 bc_1 (by decide) (by decide)
          have qe3955 : zi3951.toInt = zi140.toInt + 1 := by have ha : (1 : Int32).toInt = 1 := (by decide); rw [ha] at qe3954; exact qe3954
          refine lv_iinc (v := zi3951) (lv' := [(2, .int zi3951), (0, .ref qa900), (1, .int zi901)]) hx hb dX12_fillsBook_49 hl (k := 2) rfl ea3952.symm (by decide) rfl (fun ls hl => ?_)
          refine lv_goto (tgt := 31) hx hb dX12_fillsBook_52 (by decide) ?_
          exact ih184 hp3948 zi3951 _ _ ls (by have := hm186; have := qe3955; omega) ok3950 (Fr.put (cq := 100000) (Fr.tr (Fr.rf) F142 (by decide)) eh3949 kd3942 (cd_a (by decide)) (by decide)) (b_wid2 bd3953 (by decide) (by decide)) (lv_sub hl [1, 2, 0] rfl) hw hS
    exact lp185 _ hp10 0 _ _ ls (lp_in _) ok11 (Fr.rf) (b_wid2 bc_0 (by decide) (by decide)) (lv_sub hl [1, 2, 0] rfl) hw hS
  · skip
    have bd3956 : (0 : Int) ≤ zi901.toInt ∧ zi901.toInt ≤ 0 := r_eq_x cn15 bd901 bc_0 (by decide) (by decide)
    refine lv_aload_n hx hb dX12_fillsBook_23 rfl (lv_at hl 0 rfl) ?_
    refine lv_iconst (v := 0) hx hb dX12_fillsBook_24 (by decide) ?_
    refine kq_v hw hS hA (va_runV (As := [.int 0]) (rest := []) ⟨hx, hb, hml, hown, hT⟩ (cX12_fitsOne_0 l G cy ev K ln Ls hW _ hp10 ok11 qa900 0 kd900 (b_wid2 bc_0 (by decide) (by decide))) (cwV 1 hT (good_V tb_1941 tb_1938 tb_1940 tb_103 tb_122) rfl rfl rfl (by decide +kernel) ⟨Nat.le_of_ble_eq_true rfl, Nat.le_of_ble_eq_true rfl⟩) (pool_preV (ci := 12) hK hE hS hA hw hW kd900 (by decide) rfl) rfl rfl hl.1 rfl (lv_room (Nat.le_of_ble_eq_true rfl)) dX12_fillsBook_25 ⟨Nat.le_of_ble_eq_true rfl, Nat.le_of_ble_eq_true rfl⟩) (fun hp3957 H locs hq3960 hw hS => ?_)
    obtain ⟨ok3958, F3959⟩ := hq3960
    have hw : PW G cy K ln Ls A hp3957 H := hw
    rw [hQ]
    exact kz_v hx hb hr hlocks hS hp3957 hw ⟨ok3958, (Fr.tr (Fr.tr (Fr.put (cq := 13065) (Fr.put (cq := 13064) (Fr.put (cq := 13063) (Fr.rf) eh2 kd900 (cd_o (by decide)) (by decide)) eh5 kd900 (cd_o (by decide)) (by decide)) eh8 kd900 (cd_o (by decide)) (by decide)) F12 (by decide)) F3959 (by decide))⟩ (Nat.le_of_ble_eq_true rfl) (Nat.le_of_ble_eq_true rfl) dX12_fillsBook_28

set_option maxRecDepth 100000 in
set_option maxHeartbeats 4000000 in
theorem cX12_in_7 (l : Launch) (G : va_G) (cy : Nat → ClassId) (ev : Ew) (K ln : Nat → Nat) (Ls : List Nat) (hW : SW K ln Ls) (sz : Nat) (hp0 : Nat → Nat → Value) (ok0 : Ok K hp0) (zi900 : Int32) (zi901 : Int32) (zi902 : Int32) (bd901 : ((0 : Int) ≤ zi901.toInt ∧ zi901.toInt ≤ 0)) (bd902 : ((0 : Int) ≤ zi902.toInt ∧ zi902.toInt ≤ 5)) : Met l yX12_in (WS yX12_in cX12_in 3 (some .boolean)) { frames := 0, cells := 0, slots := 0, locals := 0 } (PB2 [.int zi900, .int zi901, .int zi902] sz G cy ev (va_pl Ls (cellOf cy K ln hp0))) (QBi (S := (Nat → Nat → Value)) (fun (r : Int32) (u : (Nat → Nat → Value)) => Ok K u ∧ Fr [] K hp0 u ∧ ((0 : Int) ≤ r.toInt ∧ r.toInt ≤ 1) ∧ (r = 1 → ((0 : Int) ≤ zi900.toInt ∧ zi900.toInt ≤ 5))) G (fun u => va_pl Ls (cellOf cy K ln u)) (va_A (va_pl Ls (cellOf cy K ln hp0)) sz)) 0 0 (va_A (va_pl Ls (cellOf cy K ln hp0)) sz) := by
  refine met_of2 (y := yX12_in) (L := 3) (av := [.int zi900, .int zi901, .int zi902]) (Qc := fun A => QBi (S := (Nat → Nat → Value)) (fun (r : Int32) (u : (Nat → Nat → Value)) => Ok K u ∧ Fr [] K hp0 u ∧ ((0 : Int) ≤ r.toInt ∧ r.toInt ≤ 1) ∧ (r = 1 → ((0 : Int) ≤ zi900.toInt ∧ zi900.toInt ≤ 5))) G (fun u => va_pl Ls (cellOf cy K ln u)) A) (plainFor_of_name (by decide)) (Nat.le_of_ble_eq_true rfl) ?_
  intro p e s m below meth c hsz hx hb hr hml hown hT hlocks hin hK A hA hE hw hS ls hl
  have hw : PW G cy K ln Ls A hp0 s.heap := hw
  have hown : s.vm.findClass "LieClockModel" = some m.cls := hown
  have hl : lv_has ls 3 [(0, .int zi900), (1, .int zi901), (2, .int zi902)] := hl
  obtain ⟨Q, hQ⟩ : ∃ Q : State → Prop, Q = MQ below (QBi (S := (Nat → Nat → Value)) (fun (r : Int32) (u : (Nat → Nat → Value)) => Ok K u ∧ Fr [] K hp0 u ∧ ((0 : Int) ≤ r.toInt ∧ r.toInt ≤ 1) ∧ (r = 1 → ((0 : Int) ≤ zi900.toInt ∧ zi900.toInt ≤ 5))) G (fun u => va_pl Ls (cellOf cy K ln u)) A) ([.int zi900, .int zi901, .int zi902] : List Value).toArray s 0 0 A := ⟨_, rfl⟩
  rw [← hQ]
  refine lv_iload_n hx hb dX12_in_0 rfl (lv_at hl 0 rfl) ?_
  refine lv_iload_n hx hb dX12_in_1 rfl (lv_at hl 1 rfl) ?_
  refine lv_icmp_lt (tgt := 14) hx hb dX12_in_2 (by decide) (fun cn1 => ?_) (fun cn1 => ?_)
  · skip
    have bd2 : (-2147483648 : Int) ≤ zi900.toInt ∧ zi900.toInt ≤ -1 := r_lt_x cn1 (b_all zi900) bd901 (by decide) (by decide)
    refine lv_iconst (v := 0) hx hb dX12_in_14 (by decide) ?_
    rw [hQ]
    exact kz_i hx hb hr hlocks hS (nz_n bc_0 (by decide) (by decide)) hp0 hw ⟨ok0, (Fr.rf), (b_wid2 bc_0 (by decide) (by decide)), (fun h => absurd h (by decide))⟩ (Nat.le_of_ble_eq_true rfl) (Nat.le_of_ble_eq_true rfl) dX12_in_15
  · skip
    have bd3 : (0 : Int) ≤ zi900.toInt ∧ zi900.toInt ≤ 2147483647 := r_le_y (Int32.not_lt.mp cn1) bd901 (b_all zi900) (by decide) (by decide)
    refine lv_iload_n hx hb dX12_in_5 rfl (lv_at hl 0 rfl) ?_
    refine lv_iload_n hx hb dX12_in_6 rfl (lv_at hl 2 rfl) ?_
    refine lv_icmp_gt (tgt := 14) hx hb dX12_in_7 (by decide) (fun cn4 => ?_) (fun cn4 => ?_)
    · skip
      have bd5 : (1 : Int) ≤ zi900.toInt ∧ zi900.toInt ≤ 2147483647 := r_lt_y cn4 bd902 bd3 (by decide) (by decide)
      refine lv_iconst (v := 0) hx hb dX12_in_14 (by decide) ?_
      rw [hQ]
      exact kz_i hx hb hr hlocks hS (nz_n bc_0 (by decide) (by decide)) hp0 hw ⟨ok0, (Fr.rf), (b_wid2 bc_0 (by decide) (by decide)), (fun h => absurd h (by decide))⟩ (Nat.le_of_ble_eq_true rfl) (Nat.le_of_ble_eq_true rfl) dX12_in_15
    · skip
      have bd6 : (0 : Int) ≤ zi900.toInt ∧ zi900.toInt ≤ 5 := r_le_x (Int32.not_lt.mp cn4) bd3 bd902 (by decide) (by decide)
      refine lv_iconst (v := 1) hx hb dX12_in_10 (by decide) ?_
      refine lv_goto (tgt := 15) hx hb dX12_in_11 (by decide) ?_
      rw [hQ]
      exact kz_i hx hb hr hlocks hS (nz_n bc_1 (by decide) (by decide)) hp0 hw ⟨ok0, (Fr.rf), (b_wid2 bc_1 (by decide) (by decide)), (fun _ => b_wid2 bd6 (by decide) (by decide))⟩ (Nat.le_of_ble_eq_true rfl) (Nat.le_of_ble_eq_true rfl) dX12_in_15

set_option maxRecDepth 100000 in
set_option maxHeartbeats 4000000 in
theorem cX12_fits_0 (l : Launch) (G : va_G) (cy : Nat → ClassId) (ev : Ew) (K ln : Nat → Nat) (Ls : List Nat) (hW : SW K ln Ls) (sz : Nat) (hp0 : Nat → Nat → Value) (ok0 : Ok K hp0) (qa900 : Nat) (zi901 : Int32) (kd900 : K qa900 = 13) (pdLW : LW hp0 qa900) : Met l yX12_fits (WS yX12_fits cX12_fits 2 (some .long)) { frames := 5, cells := 0, slots := 0, locals := 126 } (PB2 [.ref qa900, .int zi901] sz G cy ev (va_pl Ls (cellOf cy K ln hp0))) (QBl (S := (Nat → Nat → Value)) (fun (r : Int64) (u : (Nat → Nat → Value)) => Ok K u ∧ Fr [13048, 13051, 13063, 13064, 13065, 90000, 91000, 93000, 95000, 100000] K hp0 u) G (fun u => va_pl Ls (cellOf cy K ln u)) (va_A (va_pl Ls (cellOf cy K ln hp0)) sz)) 0 0 (va_A (va_pl Ls (cellOf cy K ln hp0)) sz) := by
  refine met_of2 (y := yX12_fits) (L := 2) (av := [.ref qa900, .int zi901]) (Qc := fun A => QBl (S := (Nat → Nat → Value)) (fun (r : Int64) (u : (Nat → Nat → Value)) => Ok K u ∧ Fr [13048, 13051, 13063, 13064, 13065, 90000, 91000, 93000, 95000, 100000] K hp0 u) G (fun u => va_pl Ls (cellOf cy K ln u)) A) (plainFor_of_name (by decide)) (Nat.le_of_ble_eq_true rfl) ?_
  intro p e s m below meth c hsz hx hb hr hml hown hT hlocks hin hK A hA hE hw hS ls hl
  have hw : PW G cy K ln Ls A hp0 s.heap := hw
  have hown : s.vm.findClass "LieClockModel" = some m.cls := hown
  have hl : lv_has ls 2 [(0, .ref qa900), (1, .int zi901)] := hl
  obtain ⟨Q, hQ⟩ : ∃ Q : State → Prop, Q = MQ below (QBl (S := (Nat → Nat → Value)) (fun (r : Int64) (u : (Nat → Nat → Value)) => Ok K u ∧ Fr [13048, 13051, 13063, 13064, 13065, 90000, 91000, 93000, 95000, 100000] K hp0 u) G (fun u => va_pl Ls (cellOf cy K ln u)) A) ([.ref qa900, .int zi901] : List Value).toArray s 0 0 A := ⟨_, rfl⟩
  rw [← hQ]
  refine lv_iload_n hx hb dX12_fits_0 rfl (lv_at hl 1 rfl) ?_
  refine lv_iconst (v := 0) hx hb dX12_fits_1 (by decide) ?_
  refine lv_aload_n hx hb dX12_fits_2 rfl (lv_at hl 0 rfl) ?_
  obtain ⟨zi2, eq1, bd3⟩ := rd_13061 ok0 kd900
  refine p_get (ci := 12) (v := .int zi2) (C := RX12) (T := TX12) (N := 69) hx hb hT iw_X12 hown hK hw hW kd900 (by decide) rfl rfl 61 (by decide) eq1 (hT _ tb_1435) (fun _ h9 => h9) dX12_fits_3 ?_
  refine kq_i hw hS hA (va_runS (As := [.int zi901, .int 0, .int zi2]) (rest := []) ⟨hx, hb, hml, hown, hT⟩ (cX12_in_7 l G cy ev K ln Ls hW _ hp0 ok0 zi901 0 zi2 (b_wid2 bc_0 (by decide) (by decide)) (b_wid2 bd3 (by decide) (by decide))) (va_cwS 3 hT (good_S tb_1734 tb_1732 tb_1733 tb_122) rfl rfl rfl (by decide +kernel) ⟨Nat.le_of_ble_eq_true rfl, Nat.le_of_ble_eq_true rfl⟩) (PB2.preS hK hE hS hA hw) rfl rfl hl.1 rfl (lv_room (Nat.le_of_ble_eq_true rfl)) dX12_fits_6 ⟨Nat.le_of_ble_eq_true rfl, Nat.le_of_ble_eq_true rfl⟩) (fun zi8 hp4 H locs hq7 hw hS => ?_)
  obtain ⟨ok5, F6, bd9, hc10⟩ := hq7
  obtain rfl : hp0 = hp4 := (Fr.nil F6).symm
  have hw : PW G cy K ln Ls A hp0 H := hw
  rcases b01 bd9 with cn11 | cn11
  · skip
    subst cn11
    refine lv_if_ne (tgt := 16) hx hb dX12_fits_9 (by decide) (fun c => absurd (d_eq bc_0 bc_0) c) (fun _ => ?_)
    refine lv_ldc2 (v := (-1)) hx hb hown (hT _ tb_1680) dX12_fits_12 ?_
    rw [hQ]
    exact kz_l hx hb hr hlocks hS hp0 hw ⟨ok0, (Fr.rf)⟩ (Nat.le_of_ble_eq_true rfl) (Nat.le_of_ble_eq_true rfl) dX12_fits_15
  · skip
    subst cn11
    have bd12 : (0 : Int) ≤ zi901.toInt ∧ zi901.toInt ≤ 5 := b_meet (b_all zi901) (hc10 rfl) (by decide) (by decide)
    refine lv_if_ne (tgt := 16) hx hb dX12_fits_9 (by decide) (fun _ => ?_) (fun c => absurd c (d_ne bc_1 bc_0 (by decide)))
    refine lv_aload_n hx hb dX12_fits_16 rfl (lv_at hl 0 rfl) ?_
    refine lv_iload_n hx hb dX12_fits_17 rfl (lv_at hl 1 rfl) ?_
    refine kq_v hw hS hA (va_runV (As := [.int zi901]) (rest := []) ⟨hx, hb, hml, hown, hT⟩ (cX12_fillsBook_0 l G cy ev K ln Ls hW _ hp0 ok0 qa900 zi901 kd900 (b_wid2 bd12 (by decide) (by decide)) pdLW) (cwV 1 hT (good_V tb_1937 tb_1934 tb_1936 tb_102 tb_122) rfl rfl rfl (by decide +kernel) ⟨Nat.le_of_ble_eq_true rfl, Nat.le_of_ble_eq_true rfl⟩) (pool_preV (ci := 12) hK hE hS hA hw hW kd900 (by decide) rfl) rfl rfl hl.1 rfl (lv_room (Nat.le_of_ble_eq_true rfl)) dX12_fits_18 ⟨Nat.le_of_ble_eq_true rfl, Nat.le_of_ble_eq_true rfl⟩) (fun hp13 H locs hq16 hw hS => ?_)
    obtain ⟨ok14, F15⟩ := hq16
    have hw : PW G cy K ln Ls A hp13 H := hw
    refine lv_aload_n hx hb dX12_fits_21 rfl (lv_at hl 0 rfl) ?_
    obtain ⟨wl19, eq18⟩ := rd_13063 ok14 kd900
    refine p_get (ci := 12) (v := .long wl19) (C := RX12) (T := TX12) (N := 69) hx hb hT iw_X12 hown hK hw hW kd900 (by decide) rfl rfl 63 (by decide) eq18 (hT _ tb_1437) (fun _ h9 => h9) dX12_fits_22 ?_
    rw [hQ]
    exact kz_l hx hb hr hlocks hS hp13 hw ⟨ok14, (Fr.tr (Fr.rf) F15 (by decide))⟩ (Nat.le_of_ble_eq_true rfl) (Nat.le_of_ble_eq_true rfl) dX12_fits_25

set_option maxRecDepth 100000 in
set_option maxHeartbeats 4000000 in
theorem cX12_surely_0 (l : Launch) (G : va_G) (cy : Nat → ClassId) (ev : Ew) (K ln : Nat → Nat) (Ls : List Nat) (hW : SW K ln Ls) (sz : Nat) (hp0 : Nat → Nat → Value) (ok0 : Ok K hp0) (qa900 : Nat) (zi901 : Int32) (kd900 : K qa900 = 13) (pdLW : LW hp0 qa900) : Met l yX12_surely (WS yX12_surely cX12_surely 2 (some .int)) { frames := 5, cells := 0, slots := 0, locals := 126 } (PB2 [.ref qa900, .int zi901] sz G cy ev (va_pl Ls (cellOf cy K ln hp0))) (QBi (S := (Nat → Nat → Value)) (fun (r : Int32) (u : (Nat → Nat → Value)) => Ok K u ∧ Fr [13048, 13051, 13063, 13064, 13065, 90000, 91000, 93000, 95000, 100000] K hp0 u) G (fun u => va_pl Ls (cellOf cy K ln u)) (va_A (va_pl Ls (cellOf cy K ln hp0)) sz)) 0 0 (va_A (va_pl Ls (cellOf cy K ln hp0)) sz) := by
  refine met_of2 (y := yX12_surely) (L := 2) (av := [.ref qa900, .int zi901]) (Qc := fun A => QBi (S := (Nat → Nat → Value)) (fun (r : Int32) (u : (Nat → Nat → Value)) => Ok K u ∧ Fr [13048, 13051, 13063, 13064, 13065, 90000, 91000, 93000, 95000, 100000] K hp0 u) G (fun u => va_pl Ls (cellOf cy K ln u)) A) (plainFor_of_name (by decide)) (Nat.le_of_ble_eq_true rfl) ?_
  intro p e s m below meth c hsz hx hb hr hml hown hT hlocks hin hK A hA hE hw hS ls hl
  have hw : PW G cy K ln Ls A hp0 s.heap := hw
  have hown : s.vm.findClass "LieClockModel" = some m.cls := hown
  have hl : lv_has ls 2 [(0, .ref qa900), (1, .int zi901)] := hl
  obtain ⟨Q, hQ⟩ : ∃ Q : State → Prop, Q = MQ below (QBi (S := (Nat → Nat → Value)) (fun (r : Int32) (u : (Nat → Nat → Value)) => Ok K u ∧ Fr [13048, 13051, 13063, 13064, 13065, 90000, 91000, 93000, 95000, 100000] K hp0 u) G (fun u => va_pl Ls (cellOf cy K ln u)) A) ([.ref qa900, .int zi901] : List Value).toArray s 0 0 A := ⟨_, rfl⟩
  rw [← hQ]
  refine lv_iload_n hx hb dX12_surely_0 rfl (lv_at hl 1 rfl) ?_
  refine lv_iconst (v := 0) hx hb dX12_surely_1 (by decide) ?_
  refine lv_aload_n hx hb dX12_surely_2 rfl (lv_at hl 0 rfl) ?_
  obtain ⟨zi2, eq1, bd3⟩ := rd_13061 ok0 kd900
  refine p_get (ci := 12) (v := .int zi2) (C := RX12) (T := TX12) (N := 69) hx hb hT iw_X12 hown hK hw hW kd900 (by decide) rfl rfl 61 (by decide) eq1 (hT _ tb_1435) (fun _ h9 => h9) dX12_surely_3 ?_
  refine kq_i hw hS hA (va_runS (As := [.int zi901, .int 0, .int zi2]) (rest := []) ⟨hx, hb, hml, hown, hT⟩ (cX12_in_7 l G cy ev K ln Ls hW _ hp0 ok0 zi901 0 zi2 (b_wid2 bc_0 (by decide) (by decide)) (b_wid2 bd3 (by decide) (by decide))) (va_cwS 3 hT (good_S tb_1734 tb_1732 tb_1733 tb_122) rfl rfl rfl (by decide +kernel) ⟨Nat.le_of_ble_eq_true rfl, Nat.le_of_ble_eq_true rfl⟩) (PB2.preS hK hE hS hA hw) rfl rfl hl.1 rfl (lv_room (Nat.le_of_ble_eq_true rfl)) dX12_surely_6 ⟨Nat.le_of_ble_eq_true rfl, Nat.le_of_ble_eq_true rfl⟩) (fun zi8 hp4 H locs hq7 hw hS => ?_)
  obtain ⟨ok5, F6, bd9, hc10⟩ := hq7
  obtain rfl : hp0 = hp4 := (Fr.nil F6).symm
  have hw : PW G cy K ln Ls A hp0 H := hw
  rcases b01 bd9 with cn11 | cn11
  · skip
    subst cn11
    refine lv_if_ne (tgt := 14) hx hb dX12_surely_9 (by decide) (fun c => absurd (d_eq bc_0 bc_0) c) (fun _ => ?_)
    refine lv_iconst (v := (-1)) hx hb dX12_surely_12 (by decide) ?_
    rw [hQ]
    exact kz_i hx hb hr hlocks hS rfl hp0 hw ⟨ok0, (Fr.rf)⟩ (Nat.le_of_ble_eq_true rfl) (Nat.le_of_ble_eq_true rfl) dX12_surely_13
  · skip
    subst cn11
    have bd12 : (0 : Int) ≤ zi901.toInt ∧ zi901.toInt ≤ 5 := b_meet (b_all zi901) (hc10 rfl) (by decide) (by decide)
    refine lv_if_ne (tgt := 14) hx hb dX12_surely_9 (by decide) (fun _ => ?_) (fun c => absurd c (d_ne bc_1 bc_0 (by decide)))
    refine lv_aload_n hx hb dX12_surely_14 rfl (lv_at hl 0 rfl) ?_
    refine lv_iload_n hx hb dX12_surely_15 rfl (lv_at hl 1 rfl) ?_
    refine kq_v hw hS hA (va_runV (As := [.int zi901]) (rest := []) ⟨hx, hb, hml, hown, hT⟩ (cX12_fillsBook_0 l G cy ev K ln Ls hW _ hp0 ok0 qa900 zi901 kd900 (b_wid2 bd12 (by decide) (by decide)) pdLW) (cwV 1 hT (good_V tb_1937 tb_1934 tb_1936 tb_102 tb_122) rfl rfl rfl (by decide +kernel) ⟨Nat.le_of_ble_eq_true rfl, Nat.le_of_ble_eq_true rfl⟩) (pool_preV (ci := 12) hK hE hS hA hw hW kd900 (by decide) rfl) rfl rfl hl.1 rfl (lv_room (Nat.le_of_ble_eq_true rfl)) dX12_surely_16 ⟨Nat.le_of_ble_eq_true rfl, Nat.le_of_ble_eq_true rfl⟩) (fun hp13 H locs hq16 hw hS => ?_)
    obtain ⟨ok14, F15⟩ := hq16
    have hw : PW G cy K ln Ls A hp13 H := hw
    refine lv_aload_n hx hb dX12_surely_19 rfl (lv_at hl 0 rfl) ?_
    obtain ⟨zi19, eq18⟩ := rd_13064 ok14 kd900
    refine p_get (ci := 12) (v := .int zi19) (C := RX12) (T := TX12) (N := 69) hx hb hT iw_X12 hown hK hw hW kd900 (by decide) rfl rfl 64 (by decide) eq18 (hT _ tb_1438) (fun _ h9 => h9) dX12_surely_20 ?_
    rw [hQ]
    exact kz_i hx hb hr hlocks hS rfl hp13 hw ⟨ok14, (Fr.tr (Fr.rf) F15 (by decide))⟩ (Nat.le_of_ble_eq_true rfl) (Nat.le_of_ble_eq_true rfl) dX12_surely_23

set_option maxRecDepth 100000 in
set_option maxHeartbeats 4000000 in
theorem cX12_liars_0 (l : Launch) (G : va_G) (cy : Nat → ClassId) (ev : Ew) (K ln : Nat → Nat) (Ls : List Nat) (hW : SW K ln Ls) (sz : Nat) (hp0 : Nat → Nat → Value) (ok0 : Ok K hp0) (qa900 : Nat) (zi901 : Int32) (kd900 : K qa900 = 13) (pdLW : LW hp0 qa900) : Met l yX12_liars (WS yX12_liars cX12_liars 2 (some .int)) { frames := 5, cells := 0, slots := 0, locals := 126 } (PB2 [.ref qa900, .int zi901] sz G cy ev (va_pl Ls (cellOf cy K ln hp0))) (QBi (S := (Nat → Nat → Value)) (fun (r : Int32) (u : (Nat → Nat → Value)) => Ok K u ∧ Fr [13048, 13051, 13063, 13064, 13065, 90000, 91000, 93000, 95000, 100000] K hp0 u) G (fun u => va_pl Ls (cellOf cy K ln u)) (va_A (va_pl Ls (cellOf cy K ln hp0)) sz)) 0 0 (va_A (va_pl Ls (cellOf cy K ln hp0)) sz) := by
  refine met_of2 (y := yX12_liars) (L := 2) (av := [.ref qa900, .int zi901]) (Qc := fun A => QBi (S := (Nat → Nat → Value)) (fun (r : Int32) (u : (Nat → Nat → Value)) => Ok K u ∧ Fr [13048, 13051, 13063, 13064, 13065, 90000, 91000, 93000, 95000, 100000] K hp0 u) G (fun u => va_pl Ls (cellOf cy K ln u)) A) (plainFor_of_name (by decide)) (Nat.le_of_ble_eq_true rfl) ?_
  intro p e s m below meth c hsz hx hb hr hml hown hT hlocks hin hK A hA hE hw hS ls hl
  have hw : PW G cy K ln Ls A hp0 s.heap := hw
  have hown : s.vm.findClass "LieClockModel" = some m.cls := hown
  have hl : lv_has ls 2 [(0, .ref qa900), (1, .int zi901)] := hl
  obtain ⟨Q, hQ⟩ : ∃ Q : State → Prop, Q = MQ below (QBi (S := (Nat → Nat → Value)) (fun (r : Int32) (u : (Nat → Nat → Value)) => Ok K u ∧ Fr [13048, 13051, 13063, 13064, 13065, 90000, 91000, 93000, 95000, 100000] K hp0 u) G (fun u => va_pl Ls (cellOf cy K ln u)) A) ([.ref qa900, .int zi901] : List Value).toArray s 0 0 A := ⟨_, rfl⟩
  rw [← hQ]
  refine lv_iload_n hx hb dX12_liars_0 rfl (lv_at hl 1 rfl) ?_
  refine lv_iconst (v := 0) hx hb dX12_liars_1 (by decide) ?_
  refine lv_aload_n hx hb dX12_liars_2 rfl (lv_at hl 0 rfl) ?_
  obtain ⟨zi2, eq1, bd3⟩ := rd_13061 ok0 kd900
  refine p_get (ci := 12) (v := .int zi2) (C := RX12) (T := TX12) (N := 69) hx hb hT iw_X12 hown hK hw hW kd900 (by decide) rfl rfl 61 (by decide) eq1 (hT _ tb_1435) (fun _ h9 => h9) dX12_liars_3 ?_
  refine kq_i hw hS hA (va_runS (As := [.int zi901, .int 0, .int zi2]) (rest := []) ⟨hx, hb, hml, hown, hT⟩ (cX12_in_7 l G cy ev K ln Ls hW _ hp0 ok0 zi901 0 zi2 (b_wid2 bc_0 (by decide) (by decide)) (b_wid2 bd3 (by decide) (by decide))) (va_cwS 3 hT (good_S tb_1734 tb_1732 tb_1733 tb_122) rfl rfl rfl (by decide +kernel) ⟨Nat.le_of_ble_eq_true rfl, Nat.le_of_ble_eq_true rfl⟩) (PB2.preS hK hE hS hA hw) rfl rfl hl.1 rfl (lv_room (Nat.le_of_ble_eq_true rfl)) dX12_liars_6 ⟨Nat.le_of_ble_eq_true rfl, Nat.le_of_ble_eq_true rfl⟩) (fun zi8 hp4 H locs hq7 hw hS => ?_)
  obtain ⟨ok5, F6, bd9, hc10⟩ := hq7
  obtain rfl : hp0 = hp4 := (Fr.nil F6).symm
  have hw : PW G cy K ln Ls A hp0 H := hw
  rcases b01 bd9 with cn11 | cn11
  · skip
    subst cn11
    refine lv_if_ne (tgt := 14) hx hb dX12_liars_9 (by decide) (fun c => absurd (d_eq bc_0 bc_0) c) (fun _ => ?_)
    refine lv_iconst (v := (-1)) hx hb dX12_liars_12 (by decide) ?_
    rw [hQ]
    exact kz_i hx hb hr hlocks hS rfl hp0 hw ⟨ok0, (Fr.rf)⟩ (Nat.le_of_ble_eq_true rfl) (Nat.le_of_ble_eq_true rfl) dX12_liars_13
  · skip
    subst cn11
    have bd12 : (0 : Int) ≤ zi901.toInt ∧ zi901.toInt ≤ 5 := b_meet (b_all zi901) (hc10 rfl) (by decide) (by decide)
    refine lv_if_ne (tgt := 14) hx hb dX12_liars_9 (by decide) (fun _ => ?_) (fun c => absurd c (d_ne bc_1 bc_0 (by decide)))
    refine lv_aload_n hx hb dX12_liars_14 rfl (lv_at hl 0 rfl) ?_
    refine lv_iload_n hx hb dX12_liars_15 rfl (lv_at hl 1 rfl) ?_
    refine kq_v hw hS hA (va_runV (As := [.int zi901]) (rest := []) ⟨hx, hb, hml, hown, hT⟩ (cX12_fillsBook_0 l G cy ev K ln Ls hW _ hp0 ok0 qa900 zi901 kd900 (b_wid2 bd12 (by decide) (by decide)) pdLW) (cwV 1 hT (good_V tb_1937 tb_1934 tb_1936 tb_102 tb_122) rfl rfl rfl (by decide +kernel) ⟨Nat.le_of_ble_eq_true rfl, Nat.le_of_ble_eq_true rfl⟩) (pool_preV (ci := 12) hK hE hS hA hw hW kd900 (by decide) rfl) rfl rfl hl.1 rfl (lv_room (Nat.le_of_ble_eq_true rfl)) dX12_liars_16 ⟨Nat.le_of_ble_eq_true rfl, Nat.le_of_ble_eq_true rfl⟩) (fun hp13 H locs hq16 hw hS => ?_)
    obtain ⟨ok14, F15⟩ := hq16
    have hw : PW G cy K ln Ls A hp13 H := hw
    refine lv_aload_n hx hb dX12_liars_19 rfl (lv_at hl 0 rfl) ?_
    obtain ⟨zi19, eq18⟩ := rd_13065 ok14 kd900
    refine p_get (ci := 12) (v := .int zi19) (C := RX12) (T := TX12) (N := 69) hx hb hT iw_X12 hown hK hw hW kd900 (by decide) rfl rfl 65 (by decide) eq18 (hT _ tb_1439) (fun _ h9 => h9) dX12_liars_20 ?_
    rw [hQ]
    exact kz_i hx hb hr hlocks hS rfl hp13 hw ⟨ok14, (Fr.tr (Fr.rf) F15 (by decide))⟩ (Nat.le_of_ble_eq_true rfl) (Nat.le_of_ble_eq_true rfl) dX12_liars_23

set_option maxRecDepth 100000 in
set_option maxHeartbeats 4000000 in
theorem cX12_in_8 (l : Launch) (G : va_G) (cy : Nat → ClassId) (ev : Ew) (K ln : Nat → Nat) (Ls : List Nat) (hW : SW K ln Ls) (sz : Nat) (hp0 : Nat → Nat → Value) (ok0 : Ok K hp0) (zi900 : Int32) (zi901 : Int32) (zi902 : Int32) (bd901 : ((0 : Int) ≤ zi901.toInt ∧ zi901.toInt ≤ 0)) (bd902 : ((2 : Int) ≤ zi902.toInt ∧ zi902.toInt ≤ 2)) : Met l yX12_in (WS yX12_in cX12_in 3 (some .boolean)) { frames := 0, cells := 0, slots := 0, locals := 0 } (PB2 [.int zi900, .int zi901, .int zi902] sz G cy ev (va_pl Ls (cellOf cy K ln hp0))) (QBi (S := (Nat → Nat → Value)) (fun (r : Int32) (u : (Nat → Nat → Value)) => Ok K u ∧ Fr [] K hp0 u ∧ ((0 : Int) ≤ r.toInt ∧ r.toInt ≤ 1) ∧ (r = 1 → ((0 : Int) ≤ zi900.toInt ∧ zi900.toInt ≤ 2))) G (fun u => va_pl Ls (cellOf cy K ln u)) (va_A (va_pl Ls (cellOf cy K ln hp0)) sz)) 0 0 (va_A (va_pl Ls (cellOf cy K ln hp0)) sz) := by
  refine met_of2 (y := yX12_in) (L := 3) (av := [.int zi900, .int zi901, .int zi902]) (Qc := fun A => QBi (S := (Nat → Nat → Value)) (fun (r : Int32) (u : (Nat → Nat → Value)) => Ok K u ∧ Fr [] K hp0 u ∧ ((0 : Int) ≤ r.toInt ∧ r.toInt ≤ 1) ∧ (r = 1 → ((0 : Int) ≤ zi900.toInt ∧ zi900.toInt ≤ 2))) G (fun u => va_pl Ls (cellOf cy K ln u)) A) (plainFor_of_name (by decide)) (Nat.le_of_ble_eq_true rfl) ?_
  intro p e s m below meth c hsz hx hb hr hml hown hT hlocks hin hK A hA hE hw hS ls hl
  have hw : PW G cy K ln Ls A hp0 s.heap := hw
  have hown : s.vm.findClass "LieClockModel" = some m.cls := hown
  have hl : lv_has ls 3 [(0, .int zi900), (1, .int zi901), (2, .int zi902)] := hl
  obtain ⟨Q, hQ⟩ : ∃ Q : State → Prop, Q = MQ below (QBi (S := (Nat → Nat → Value)) (fun (r : Int32) (u : (Nat → Nat → Value)) => Ok K u ∧ Fr [] K hp0 u ∧ ((0 : Int) ≤ r.toInt ∧ r.toInt ≤ 1) ∧ (r = 1 → ((0 : Int) ≤ zi900.toInt ∧ zi900.toInt ≤ 2))) G (fun u => va_pl Ls (cellOf cy K ln u)) A) ([.int zi900, .int zi901, .int zi902] : List Value).toArray s 0 0 A := ⟨_, rfl⟩
  rw [← hQ]
  refine lv_iload_n hx hb dX12_in_0 rfl (lv_at hl 0 rfl) ?_
  refine lv_iload_n hx hb dX12_in_1 rfl (lv_at hl 1 rfl) ?_
  refine lv_icmp_lt (tgt := 14) hx hb dX12_in_2 (by decide) (fun cn1 => ?_) (fun cn1 => ?_)
  · skip
    have bd2 : (-2147483648 : Int) ≤ zi900.toInt ∧ zi900.toInt ≤ -1 := r_lt_x cn1 (b_all zi900) bd901 (by decide) (by decide)
    refine lv_iconst (v := 0) hx hb dX12_in_14 (by decide) ?_
    rw [hQ]
    exact kz_i hx hb hr hlocks hS (nz_n bc_0 (by decide) (by decide)) hp0 hw ⟨ok0, (Fr.rf), (b_wid2 bc_0 (by decide) (by decide)), (fun h => absurd h (by decide))⟩ (Nat.le_of_ble_eq_true rfl) (Nat.le_of_ble_eq_true rfl) dX12_in_15
  · skip
    have bd3 : (0 : Int) ≤ zi900.toInt ∧ zi900.toInt ≤ 2147483647 := r_le_y (Int32.not_lt.mp cn1) bd901 (b_all zi900) (by decide) (by decide)
    refine lv_iload_n hx hb dX12_in_5 rfl (lv_at hl 0 rfl) ?_
    refine lv_iload_n hx hb dX12_in_6 rfl (lv_at hl 2 rfl) ?_
    refine lv_icmp_gt (tgt := 14) hx hb dX12_in_7 (by decide) (fun cn4 => ?_) (fun cn4 => ?_)
    · skip
      have bd5 : (3 : Int) ≤ zi900.toInt ∧ zi900.toInt ≤ 2147483647 := r_lt_y cn4 bd902 bd3 (by decide) (by decide)
      refine lv_iconst (v := 0) hx hb dX12_in_14 (by decide) ?_
      rw [hQ]
      exact kz_i hx hb hr hlocks hS (nz_n bc_0 (by decide) (by decide)) hp0 hw ⟨ok0, (Fr.rf), (b_wid2 bc_0 (by decide) (by decide)), (fun h => absurd h (by decide))⟩ (Nat.le_of_ble_eq_true rfl) (Nat.le_of_ble_eq_true rfl) dX12_in_15
    · skip
      have bd6 : (0 : Int) ≤ zi900.toInt ∧ zi900.toInt ≤ 2 := r_le_x (Int32.not_lt.mp cn4) bd3 bd902 (by decide) (by decide)
      refine lv_iconst (v := 1) hx hb dX12_in_10 (by decide) ?_
      refine lv_goto (tgt := 15) hx hb dX12_in_11 (by decide) ?_
      rw [hQ]
      exact kz_i hx hb hr hlocks hS (nz_n bc_1 (by decide) (by decide)) hp0 hw ⟨ok0, (Fr.rf), (b_wid2 bc_1 (by decide) (by decide)), (fun _ => b_wid2 bd6 (by decide) (by decide))⟩ (Nat.le_of_ble_eq_true rfl) (Nat.le_of_ble_eq_true rfl) dX12_in_15

set_option maxRecDepth 100000 in
set_option maxHeartbeats 4000000 in
theorem cX12_hold_0 (l : Launch) (G : va_G) (cy : Nat → ClassId) (ev : Ew) (K ln : Nat → Nat) (Ls : List Nat) (hW : SW K ln Ls) (sz : Nat) (hp0 : Nat → Nat → Value) (ok0 : Ok K hp0) (qa900 : Nat) (zi901 : Int32) (kd900 : K qa900 = 13) : Met l yX12_hold (WS yX12_hold cX12_hold 3 (some .boolean)) { frames := 1, cells := 0, slots := 0, locals := 22 } (PB2 [.ref qa900, .int zi901] sz G cy ev (va_pl Ls (cellOf cy K ln hp0))) (QBi (S := (Nat → Nat → Value)) (fun (r : Int32) (u : (Nat → Nat → Value)) => Ok K u ∧ Fr [101000, 102000] K hp0 u ∧ ((0 : Int) ≤ r.toInt ∧ r.toInt ≤ 1) ∧ (r = 1 → ((0 : Int) ≤ zi901.toInt ∧ zi901.toInt ≤ 2))) G (fun u => va_pl Ls (cellOf cy K ln u)) (va_A (va_pl Ls (cellOf cy K ln hp0)) sz)) 0 0 (va_A (va_pl Ls (cellOf cy K ln hp0)) sz) := by
  refine met_of2 (y := yX12_hold) (L := 3) (av := [.ref qa900, .int zi901]) (Qc := fun A => QBi (S := (Nat → Nat → Value)) (fun (r : Int32) (u : (Nat → Nat → Value)) => Ok K u ∧ Fr [101000, 102000] K hp0 u ∧ ((0 : Int) ≤ r.toInt ∧ r.toInt ≤ 1) ∧ (r = 1 → ((0 : Int) ≤ zi901.toInt ∧ zi901.toInt ≤ 2))) G (fun u => va_pl Ls (cellOf cy K ln u)) A) (plainFor_of_name (by decide)) (Nat.le_of_ble_eq_true rfl) ?_
  intro p e s m below meth c hsz hx hb hr hml hown hT hlocks hin hK A hA hE hw hS ls hl
  have hw : PW G cy K ln Ls A hp0 s.heap := hw
  have hown : s.vm.findClass "LieClockModel" = some m.cls := hown
  have hl : lv_has ls 3 [(0, .ref qa900), (1, .int zi901)] := hl
  obtain ⟨Q, hQ⟩ : ∃ Q : State → Prop, Q = MQ below (QBi (S := (Nat → Nat → Value)) (fun (r : Int32) (u : (Nat → Nat → Value)) => Ok K u ∧ Fr [101000, 102000] K hp0 u ∧ ((0 : Int) ≤ r.toInt ∧ r.toInt ≤ 1) ∧ (r = 1 → ((0 : Int) ≤ zi901.toInt ∧ zi901.toInt ≤ 2))) G (fun u => va_pl Ls (cellOf cy K ln u)) A) ([.ref qa900, .int zi901] : List Value).toArray s 0 0 A := ⟨_, rfl⟩
  rw [← hQ]
  refine lv_iload_n hx hb dX12_hold_0 rfl (lv_at hl 1 rfl) ?_
  refine lv_iconst (v := 0) hx hb dX12_hold_1 (by decide) ?_
  refine lv_iconst (v := 2) hx hb dX12_hold_2 (by decide) ?_
  refine kq_i hw hS hA (va_runS (As := [.int zi901, .int 0, .int 2]) (rest := []) ⟨hx, hb, hml, hown, hT⟩ (cX12_in_8 l G cy ev K ln Ls hW _ hp0 ok0 zi901 0 2 (b_wid2 bc_0 (by decide) (by decide)) (b_wid2 bc_2 (by decide) (by decide))) (va_cwS 3 hT (good_S tb_1734 tb_1732 tb_1733 tb_122) rfl rfl rfl (by decide +kernel) ⟨Nat.le_of_ble_eq_true rfl, Nat.le_of_ble_eq_true rfl⟩) (PB2.preS hK hE hS hA hw) rfl rfl hl.1 rfl (lv_room (Nat.le_of_ble_eq_true rfl)) dX12_hold_3 ⟨Nat.le_of_ble_eq_true rfl, Nat.le_of_ble_eq_true rfl⟩) (fun zi5 hp1 H locs hq4 hw hS => ?_)
  obtain ⟨ok2, F3, bd6, hc7⟩ := hq4
  obtain rfl : hp0 = hp1 := (Fr.nil F3).symm
  have hw : PW G cy K ln Ls A hp0 H := hw
  rcases b01 bd6 with cn8 | cn8
  · skip
    subst cn8
    refine lv_if_ne (tgt := 11) hx hb dX12_hold_6 (by decide) (fun c => absurd (d_eq bc_0 bc_0) c) (fun _ => ?_)
    refine lv_iconst (v := 0) hx hb dX12_hold_9 (by decide) ?_
    rw [hQ]
    exact kz_i hx hb hr hlocks hS (nz_n bc_0 (by decide) (by decide)) hp0 hw ⟨ok0, (Fr.rf), (b_wid2 bc_0 (by decide) (by decide)), (fun h => absurd h (by decide))⟩ (Nat.le_of_ble_eq_true rfl) (Nat.le_of_ble_eq_true rfl) dX12_hold_10
  · skip
    subst cn8
    have bd9 : (0 : Int) ≤ zi901.toInt ∧ zi901.toInt ≤ 2 := b_meet (b_all zi901) (hc7 rfl) (by decide) (by decide)
    refine lv_if_ne (tgt := 11) hx hb dX12_hold_6 (by decide) (fun _ => ?_) (fun c => absurd c (d_ne bc_1 bc_0 (by decide)))
    refine lv_aload_n hx hb dX12_hold_11 rfl (lv_at hl 0 rfl) ?_
    obtain ⟨qa11, eq10, kd12⟩ := rd_13067 ok0 kd900
    refine p_get (ci := 12) (v := .ref qa11) (C := RX12) (T := TX12) (N := 69) hx hb hT iw_X12 hown hK hw hW kd900 (by decide) rfl rfl 67 (by decide) eq10 (hT _ tb_1441) (fun _ h9 => h9) dX12_hold_12 ?_
    refine lv_iload_n hx hb dX12_hold_15 rfl (lv_at hl 1 rfl) ?_
    refine lv_iconst (v := 1) hx hb dX12_hold_16 (by decide) ?_
    refine p_zast (x := 1) hx hb hK hw hS hW kd12 (by decide) rfl (hW.len kd12 (n := 3) rfl (by decide)) (vp_b bd9 (by decide) (by decide)) dX12_hold_17 (fun hp13 eh14 H locs hw hS => ?_)
    have ok15 := wr_101000 (nar_z 1) (by decide) (by decide) ok0 kd12 eh14
    refine lv_iconst (v := 0) hx hb dX12_hold_18 (by decide) ?_
    refine lv_istore_n (lv' := [(2, .int 0), (0, .ref qa900), (1, .int zi901)]) hx hb dX12_hold_19 rfl hl (by decide) rfl (fun ls hl => ?_)
    have lp233 : ∀ (n231 : Nat) (hp177 : Nat → Nat → Value) (zi176 : Int32) (H : Heap) (locs : List Loc) (ls : Array Slot), 40 - zi176.toInt < (n231 : Int) → Ok K hp177 → Fr [102000] K hp13 hp177 → ((0 : Int) ≤ zi176.toInt ∧ zi176.toInt ≤ 40) → lv_has ls 3 [(0, .ref qa900), (1, .int zi901), (2, .int zi176)] → PW G cy K ln Ls A hp177 H → va_S A s.heap H locs → W p l e ({ frames := 1, cells := 0, slots := 0, locals := 22 } : Room) s m ([.ref qa900, .int zi901] : List Value).toArray below meth c H locs 0 0 Q (F0 m 20 ls []) := by
      intro n231
      induction n231 with
      | zero =>
        intro hp177 zi176 H locs ls hm234 ok179 F178 bd180 hl hw hS
        exact absurd hm234 (by have := bd180; omega)
      | succ n231 ih232 =>
        intro hp177 zi176 H locs ls hm234 ok179 F178 bd180 hl hw hS
        refine lv_iload_n hx hb dX12_hold_20 rfl (lv_at hl 2 rfl) ?_
        refine lv_bipush (v := 40) hx hb dX12_hold_21 (by decide) ?_
        refine lv_icmp_ge (tgt := 49) hx hb dX12_hold_23 (by decide) (fun cn235 => ?_) (fun cn235 => ?_)
        · skip
          have bd260 : (40 : Int) ≤ zi176.toInt ∧ zi176.toInt ≤ 40 := r_le_y cn235 bc_40 bd180 (by decide) (by decide)
          refine lv_iconst (v := 1) hx hb dX12_hold_49 (by decide) ?_
          rw [hQ]
          exact kz_i hx hb hr hlocks hS (nz_n bc_1 (by decide) (by decide)) hp177 hw ⟨ok179, (Fr.tr (Fr.put (cq := 101000) (Fr.rf) eh14 kd12 (cd_a (by decide)) (by decide)) F178 (by decide)), (b_wid2 bc_1 (by decide) (by decide)), (fun _ => b_wid2 bd9 (by decide) (by decide))⟩ (Nat.le_of_ble_eq_true rfl) (Nat.le_of_ble_eq_true rfl) dX12_hold_50
        · skip
          have bd261 : (0 : Int) ≤ zi176.toInt ∧ zi176.toInt ≤ 39 := r_lt_x (Int32.not_le.mp cn235) bd180 bc_40 (by decide) (by decide)
          refine lv_aload_n hx hb dX12_hold_26 rfl (lv_at hl 0 rfl) ?_
          obtain ⟨qa263, eq262, kd264⟩ := rd_13068 ok179 kd900
          refine p_get (ci := 12) (v := .ref qa263) (C := RX12) (T := TX12) (N := 69) hx hb hT iw_X12 hown hK hw hW kd900 (by decide) rfl rfl 68 (by decide) eq262 (hT _ tb_1442) (fun _ h9 => h9) dX12_hold_27 ?_
          refine lv_bipush (v := 40) hx hb dX12_hold_30 (by decide) ?_
          refine lv_iload_n hx hb dX12_hold_32 rfl (lv_at hl 1 rfl) ?_
          refine lv_imul hx hb dX12_hold_33 (lv_topi (fun zi265 ea266 => ?_))
          have bd267 : (0 : Int) ≤ zi265.toInt ∧ zi265.toInt ≤ 80 := b_imul ea266 bc_40 bd9 (by decide) (by decide) (by decide) (by decide) (by decide)
          refine lv_iload_n hx hb dX12_hold_34 rfl (lv_at hl 2 rfl) ?_
          refine lv_iadd hx hb dX12_hold_35 (lv_topi (fun zi268 ea269 => ?_))
          have bd270 : (0 : Int) ≤ zi268.toInt ∧ zi268.toInt ≤ 119 := b_iadd ea269 bd267 bd261 (by decide) (by decide) (by decide) (by decide)
          refine lv_aload_n hx hb dX12_hold_36 rfl (lv_at hl 0 rfl) ?_
          obtain ⟨qa272, eq271, kd273⟩ := rd_13049 ok179 kd900
          refine p_get (ci := 12) (v := .ref qa272) (C := RX12) (T := TX12) (N := 69) hx hb hT iw_X12 hown hK hw hW kd900 (by decide) rfl rfl 49 (by decide) eq271 (hT _ tb_1423) (fun _ h9 => h9) dX12_hold_37 ?_
          refine lv_iload_n hx hb dX12_hold_40 rfl (lv_at hl 2 rfl) ?_
          obtain ⟨zi275, eq274⟩ := rd_92000 ok179 kd273 ((zi176 : Int32).toNatClampNeg)
          refine p_iald (v := zi275) hx hb hK hw hW kd273 (by decide) rfl (hW.len kd273 (n := 40) rfl (by decide)) (vp_b bd261 (by decide) (by decide)) eq274 dX12_hold_41 ?_
          refine p_iast (x := zi275) hx hb hK hw hS hW kd264 (by decide) rfl (hW.len kd264 (n := 120) rfl (by decide)) (vp_b bd270 (by decide) (by decide)) dX12_hold_42 (fun hp276 eh277 H locs hw hS => ?_)
          have ok278 := wr_102000 ok179 kd264 eh277
          obtain ⟨zi279, ea280⟩ : ∃ z : Int32, z = zi176 + 1 := ⟨_, rfl⟩
          have bd281 : (1 : Int) ≤ zi279.toInt ∧ zi279.toInt ≤ 40 := b_iadd ea280 bd261 bc_1 (by decide) (by decide) (by decide) (by decide)
          have qe282 : zi279.toInt = (zi176 : Int32).toInt + (1 : Int32).toInt := e_iadd ea280 bd261 bc_1 (by decide) (by decide)
          have qe283 : zi279.toInt = zi176.toInt + 1 := by have ha : (1 : Int32).toInt = 1 := (by decide); rw [ha] at qe282; exact qe282
          refine lv_iinc (v := zi279) (lv' := [(2, .int zi279), (0, .ref qa900), (1, .int zi901)]) hx hb dX12_hold_43 hl (k := 2) rfl ea280.symm (by decide) rfl (fun ls hl => ?_)
          refine lv_goto (tgt := 20) hx hb dX12_hold_46 (by decide) ?_
          exact ih232 hp276 zi279 _ _ ls (by have := hm234; have := qe283; omega) ok278 (Fr.put (cq := 102000) (Fr.tr (Fr.rf) F178 (by decide)) eh277 kd264 (cd_a (by decide)) (by decide)) (b_wid2 bd281 (by decide) (by decide)) (lv_sub hl [1, 2, 0] rfl) hw hS
    exact lp233 _ hp13 0 _ _ ls (lp_in _) ok15 (Fr.rf) (b_wid2 bc_0 (by decide) (by decide)) (lv_sub hl [1, 2, 0] rfl) hw hS

set_option maxRecDepth 100000 in
set_option maxHeartbeats 4000000 in
theorem cX12_restore_0 (l : Launch) (G : va_G) (cy : Nat → ClassId) (ev : Ew) (K ln : Nat → Nat) (Ls : List Nat) (hW : SW K ln Ls) (sz : Nat) (hp0 : Nat → Nat → Value) (ok0 : Ok K hp0) (qa900 : Nat) (zi901 : Int32) (kd900 : K qa900 = 13) : Met l yX12_restore (WS yX12_restore cX12_restore 3 (some .boolean)) { frames := 1, cells := 0, slots := 0, locals := 22 } (PB2 [.ref qa900, .int zi901] sz G cy ev (va_pl Ls (cellOf cy K ln hp0))) (QBi (S := (Nat → Nat → Value)) (fun (r : Int32) (u : (Nat → Nat → Value)) => Ok K u ∧ Fr [13053, 92000] K hp0 u ∧ ((0 : Int) ≤ r.toInt ∧ r.toInt ≤ 1) ∧ (r = 1 → ∃ z : Int32, u qa900 53 = .int z ∧ ((0 : Int) ≤ z.toInt ∧ z.toInt ≤ 0)) ∧ (r = 1 → ((0 : Int) ≤ zi901.toInt ∧ zi901.toInt ≤ 2))) G (fun u => va_pl Ls (cellOf cy K ln u)) (va_A (va_pl Ls (cellOf cy K ln hp0)) sz)) 0 0 (va_A (va_pl Ls (cellOf cy K ln hp0)) sz) := by
  refine met_of2 (y := yX12_restore) (L := 3) (av := [.ref qa900, .int zi901]) (Qc := fun A => QBi (S := (Nat → Nat → Value)) (fun (r : Int32) (u : (Nat → Nat → Value)) => Ok K u ∧ Fr [13053, 92000] K hp0 u ∧ ((0 : Int) ≤ r.toInt ∧ r.toInt ≤ 1) ∧ (r = 1 → ∃ z : Int32, u qa900 53 = .int z ∧ ((0 : Int) ≤ z.toInt ∧ z.toInt ≤ 0)) ∧ (r = 1 → ((0 : Int) ≤ zi901.toInt ∧ zi901.toInt ≤ 2))) G (fun u => va_pl Ls (cellOf cy K ln u)) A) (plainFor_of_name (by decide)) (Nat.le_of_ble_eq_true rfl) ?_
  intro p e s m below meth c hsz hx hb hr hml hown hT hlocks hin hK A hA hE hw hS ls hl
  have hw : PW G cy K ln Ls A hp0 s.heap := hw
  have hown : s.vm.findClass "LieClockModel" = some m.cls := hown
  have hl : lv_has ls 3 [(0, .ref qa900), (1, .int zi901)] := hl
  obtain ⟨Q, hQ⟩ : ∃ Q : State → Prop, Q = MQ below (QBi (S := (Nat → Nat → Value)) (fun (r : Int32) (u : (Nat → Nat → Value)) => Ok K u ∧ Fr [13053, 92000] K hp0 u ∧ ((0 : Int) ≤ r.toInt ∧ r.toInt ≤ 1) ∧ (r = 1 → ∃ z : Int32, u qa900 53 = .int z ∧ ((0 : Int) ≤ z.toInt ∧ z.toInt ≤ 0)) ∧ (r = 1 → ((0 : Int) ≤ zi901.toInt ∧ zi901.toInt ≤ 2))) G (fun u => va_pl Ls (cellOf cy K ln u)) A) ([.ref qa900, .int zi901] : List Value).toArray s 0 0 A := ⟨_, rfl⟩
  rw [← hQ]
  refine lv_iload_n hx hb dX12_restore_0 rfl (lv_at hl 1 rfl) ?_
  refine lv_iconst (v := 0) hx hb dX12_restore_1 (by decide) ?_
  refine lv_iconst (v := 2) hx hb dX12_restore_2 (by decide) ?_
  refine kq_i hw hS hA (va_runS (As := [.int zi901, .int 0, .int 2]) (rest := []) ⟨hx, hb, hml, hown, hT⟩ (cX12_in_8 l G cy ev K ln Ls hW _ hp0 ok0 zi901 0 2 (b_wid2 bc_0 (by decide) (by decide)) (b_wid2 bc_2 (by decide) (by decide))) (va_cwS 3 hT (good_S tb_1734 tb_1732 tb_1733 tb_122) rfl rfl rfl (by decide +kernel) ⟨Nat.le_of_ble_eq_true rfl, Nat.le_of_ble_eq_true rfl⟩) (PB2.preS hK hE hS hA hw) rfl rfl hl.1 rfl (lv_room (Nat.le_of_ble_eq_true rfl)) dX12_restore_3 ⟨Nat.le_of_ble_eq_true rfl, Nat.le_of_ble_eq_true rfl⟩) (fun zi5 hp1 H locs hq4 hw hS => ?_)
  obtain ⟨ok2, F3, bd6, hc7⟩ := hq4
  obtain rfl : hp0 = hp1 := (Fr.nil F3).symm
  have hw : PW G cy K ln Ls A hp0 H := hw
  rcases b01 bd6 with cn8 | cn8
  · skip
    subst cn8
    refine lv_if_eq (tgt := 18) hx hb dX12_restore_6 (by decide) (fun _ => ?_) (fun c => absurd (d_eq bc_0 bc_0) c)
    refine lv_iconst (v := 0) hx hb dX12_restore_18 (by decide) ?_
    rw [hQ]
    exact kz_i hx hb hr hlocks hS (nz_n bc_0 (by decide) (by decide)) hp0 hw ⟨ok0, (Fr.rf), (b_wid2 bc_0 (by decide) (by decide)), (fun h => absurd h (by decide)), (fun h => absurd h (by decide))⟩ (Nat.le_of_ble_eq_true rfl) (Nat.le_of_ble_eq_true rfl) dX12_restore_19
  · skip
    subst cn8
    have bd9 : (0 : Int) ≤ zi901.toInt ∧ zi901.toInt ≤ 2 := b_meet (b_all zi901) (hc7 rfl) (by decide) (by decide)
    refine lv_if_eq (tgt := 18) hx hb dX12_restore_6 (by decide) (fun c => absurd c (d_ne bc_1 bc_0 (by decide))) (fun _ => ?_)
    refine lv_aload_n hx hb dX12_restore_9 rfl (lv_at hl 0 rfl) ?_
    obtain ⟨qa11, eq10, kd12⟩ := rd_13067 ok0 kd900
    refine p_get (ci := 12) (v := .ref qa11) (C := RX12) (T := TX12) (N := 69) hx hb hT iw_X12 hown hK hw hW kd900 (by decide) rfl rfl 67 (by decide) eq10 (hT _ tb_1441) (fun _ h9 => h9) dX12_restore_10 ?_
    refine lv_iload_n hx hb dX12_restore_13 rfl (lv_at hl 1 rfl) ?_
    obtain ⟨zi14, eq13, bd15⟩ := rd_101000 ok0 kd12 ((zi901 : Int32).toNatClampNeg)
    refine p_zald (v := zi14) hx hb hK hw hW kd12 (by decide) rfl (hW.len kd12 (n := 3) rfl (by decide)) (vp_b bd9 (by decide) (by decide)) eq13 dX12_restore_14 ?_
    refine lv_if_ne (tgt := 20) hx hb dX12_restore_15 (by decide) (fun cn16 => ?_) (fun cn16 => ?_)
    · skip
      have bd17 : (1 : Int) ≤ zi14.toInt ∧ zi14.toInt ≤ 1 := r_ne_lo cn16 bd15 (toi bc_0) (by decide) (by decide)
      refine lv_iconst (v := 0) hx hb dX12_restore_20 (by decide) ?_
      refine lv_istore_n (lv' := [(2, .int 0), (0, .ref qa900), (1, .int zi901)]) hx hb dX12_restore_21 rfl hl (by decide) rfl (fun ls hl => ?_)
      have lp235 : ∀ (n233 : Nat) (hp179 : Nat → Nat → Value) (zi178 : Int32) (H : Heap) (locs : List Loc) (ls : Array Slot), 40 - zi178.toInt < (n233 : Int) → Ok K hp179 → Fr [92000] K hp0 hp179 → ((0 : Int) ≤ zi178.toInt ∧ zi178.toInt ≤ 40) → lv_has ls 3 [(0, .ref qa900), (1, .int zi901), (2, .int zi178)] → PW G cy K ln Ls A hp179 H → va_S A s.heap H locs → W p l e ({ frames := 1, cells := 0, slots := 0, locals := 22 } : Room) s m ([.ref qa900, .int zi901] : List Value).toArray below meth c H locs 0 0 Q (F0 m 22 ls []) := by
        intro n233
        induction n233 with
        | zero =>
          intro hp179 zi178 H locs ls hm236 ok181 F180 bd182 hl hw hS
          exact absurd hm236 (by have := bd182; omega)
        | succ n233 ih234 =>
          intro hp179 zi178 H locs ls hm236 ok181 F180 bd182 hl hw hS
          refine lv_iload_n hx hb dX12_restore_22 rfl (lv_at hl 2 rfl) ?_
          refine lv_bipush (v := 40) hx hb dX12_restore_23 (by decide) ?_
          refine lv_icmp_ge (tgt := 51) hx hb dX12_restore_25 (by decide) (fun cn237 => ?_) (fun cn237 => ?_)
          · skip
            have bd262 : (40 : Int) ≤ zi178.toInt ∧ zi178.toInt ≤ 40 := r_le_y cn237 bc_40 bd182 (by decide) (by decide)
            refine lv_aload_n hx hb dX12_restore_51 rfl (lv_at hl 0 rfl) ?_
            refine lv_iconst (v := 0) hx hb dX12_restore_52 (by decide) ?_
            refine p_put (ci := 12) (v := .int 0) (ty := .int) (C := RX12) (T := TX12) (N := 69) hx hb hT iw_X12 tyX12 tyX12_ok nmX12 hown hK hw hS hW kd900 (by decide) rfl rfl 53 (by decide) (hT _ tb_1427) (fun _ h9 => h9) rfl (by decide +kernel) rfl rfl dX12_restore_53 (fun hp263 eh264 H locs hw hS => ?_)
            have ok265 := wr_13053 bc_0 (by decide) (by decide) ok181 kd900 eh264
            refine lv_iconst (v := 1) hx hb dX12_restore_56 (by decide) ?_
            rw [hQ]
            exact kz_i hx hb hr hlocks hS (nz_n bc_1 (by decide) (by decide)) hp263 hw ⟨ok265, (Fr.put (cq := 13053) (Fr.tr (Fr.rf) F180 (by decide)) eh264 kd900 (cd_o (by decide)) (by decide)), (b_wid2 bc_1 (by decide) (by decide)), (fun _ => ⟨_, (hp_self eh264), b_wid2 bc_0 (by decide) (by decide)⟩), (fun _ => b_wid2 bd9 (by decide) (by decide))⟩ (Nat.le_of_ble_eq_true rfl) (Nat.le_of_ble_eq_true rfl) dX12_restore_57
          · skip
            have bd266 : (0 : Int) ≤ zi178.toInt ∧ zi178.toInt ≤ 39 := r_lt_x (Int32.not_le.mp cn237) bd182 bc_40 (by decide) (by decide)
            refine lv_aload_n hx hb dX12_restore_28 rfl (lv_at hl 0 rfl) ?_
            obtain ⟨qa268, eq267, kd269⟩ := rd_13049 ok181 kd900
            refine p_get (ci := 12) (v := .ref qa268) (C := RX12) (T := TX12) (N := 69) hx hb hT iw_X12 hown hK hw hW kd900 (by decide) rfl rfl 49 (by decide) eq267 (hT _ tb_1423) (fun _ h9 => h9) dX12_restore_29 ?_
            refine lv_iload_n hx hb dX12_restore_32 rfl (lv_at hl 2 rfl) ?_
            refine lv_aload_n hx hb dX12_restore_33 rfl (lv_at hl 0 rfl) ?_
            obtain ⟨qa271, eq270, kd272⟩ := rd_13068 ok181 kd900
            refine p_get (ci := 12) (v := .ref qa271) (C := RX12) (T := TX12) (N := 69) hx hb hT iw_X12 hown hK hw hW kd900 (by decide) rfl rfl 68 (by decide) eq270 (hT _ tb_1442) (fun _ h9 => h9) dX12_restore_34 ?_
            refine lv_bipush (v := 40) hx hb dX12_restore_37 (by decide) ?_
            refine lv_iload_n hx hb dX12_restore_39 rfl (lv_at hl 1 rfl) ?_
            refine lv_imul hx hb dX12_restore_40 (lv_topi (fun zi273 ea274 => ?_))
            have bd275 : (0 : Int) ≤ zi273.toInt ∧ zi273.toInt ≤ 80 := b_imul ea274 bc_40 bd9 (by decide) (by decide) (by decide) (by decide) (by decide)
            refine lv_iload_n hx hb dX12_restore_41 rfl (lv_at hl 2 rfl) ?_
            refine lv_iadd hx hb dX12_restore_42 (lv_topi (fun zi276 ea277 => ?_))
            have bd278 : (0 : Int) ≤ zi276.toInt ∧ zi276.toInt ≤ 119 := b_iadd ea277 bd275 bd266 (by decide) (by decide) (by decide) (by decide)
            obtain ⟨zi280, eq279⟩ := rd_102000 ok181 kd272 ((zi276 : Int32).toNatClampNeg)
            refine p_iald (v := zi280) hx hb hK hw hW kd272 (by decide) rfl (hW.len kd272 (n := 120) rfl (by decide)) (vp_b bd278 (by decide) (by decide)) eq279 dX12_restore_43 ?_
            refine p_iast (x := zi280) hx hb hK hw hS hW kd269 (by decide) rfl (hW.len kd269 (n := 40) rfl (by decide)) (vp_b bd266 (by decide) (by decide)) dX12_restore_44 (fun hp281 eh282 H locs hw hS => ?_)
            have ok283 := wr_92000 ok181 kd269 eh282
            obtain ⟨zi284, ea285⟩ : ∃ z : Int32, z = zi178 + 1 := ⟨_, rfl⟩
            have bd286 : (1 : Int) ≤ zi284.toInt ∧ zi284.toInt ≤ 40 := b_iadd ea285 bd266 bc_1 (by decide) (by decide) (by decide) (by decide)
            have qe287 : zi284.toInt = (zi178 : Int32).toInt + (1 : Int32).toInt := e_iadd ea285 bd266 bc_1 (by decide) (by decide)
            have qe288 : zi284.toInt = zi178.toInt + 1 := by have ha : (1 : Int32).toInt = 1 := (by decide); rw [ha] at qe287; exact qe287
            refine lv_iinc (v := zi284) (lv' := [(2, .int zi284), (0, .ref qa900), (1, .int zi901)]) hx hb dX12_restore_45 hl (k := 2) rfl ea285.symm (by decide) rfl (fun ls hl => ?_)
            refine lv_goto (tgt := 22) hx hb dX12_restore_48 (by decide) ?_
            exact ih234 hp281 zi284 _ _ ls (by have := hm236; have := qe288; omega) ok283 (Fr.put (cq := 92000) (Fr.tr (Fr.rf) F180 (by decide)) eh282 kd269 (cd_a (by decide)) (by decide)) (b_wid2 bd286 (by decide) (by decide)) (lv_sub hl [1, 2, 0] rfl) hw hS
      exact lp235 _ hp0 0 _ _ ls (lp_in _) ok0 (Fr.rf) (b_wid2 bc_0 (by decide) (by decide)) (lv_sub hl [1, 2, 0] rfl) hw hS
    · skip
      have bd289 : (0 : Int) ≤ zi14.toInt ∧ zi14.toInt ≤ 0 := r_eq_x cn16 bd15 bc_0 (by decide) (by decide)
      refine lv_iconst (v := 0) hx hb dX12_restore_18 (by decide) ?_
      rw [hQ]
      exact kz_i hx hb hr hlocks hS (nz_n bc_0 (by decide) (by decide)) hp0 hw ⟨ok0, (Fr.rf), (b_wid2 bc_0 (by decide) (by decide)), (fun h => absurd h (by decide)), (fun h => absurd h (by decide))⟩ (Nat.le_of_ble_eq_true rfl) (Nat.le_of_ble_eq_true rfl) dX12_restore_19

set_option maxRecDepth 100000 in
set_option maxHeartbeats 4000000 in
theorem cX12_count_0 (l : Launch) (G : va_G) (cy : Nat → ClassId) (ev : Ew) (K ln : Nat → Nat) (Ls : List Nat) (hW : SW K ln Ls) (sz : Nat) (hp0 : Nat → Nat → Value) (ok0 : Ok K hp0) (qa900 : Nat) (zi901 : Int32) (kd900 : K qa900 = 13) : Met l yX12_count (WS yX12_count cX12_count 2 (some .int)) { frames := 1, cells := 0, slots := 0, locals := 22 } (PB2 [.ref qa900, .int zi901] sz G cy ev (va_pl Ls (cellOf cy K ln hp0))) (QBi (S := (Nat → Nat → Value)) (fun (r : Int32) (u : (Nat → Nat → Value)) => Ok K u ∧ Fr [93000] K hp0 u) G (fun u => va_pl Ls (cellOf cy K ln u)) (va_A (va_pl Ls (cellOf cy K ln hp0)) sz)) 0 0 (va_A (va_pl Ls (cellOf cy K ln hp0)) sz) := by
  refine met_of2 (y := yX12_count) (L := 2) (av := [.ref qa900, .int zi901]) (Qc := fun A => QBi (S := (Nat → Nat → Value)) (fun (r : Int32) (u : (Nat → Nat → Value)) => Ok K u ∧ Fr [93000] K hp0 u) G (fun u => va_pl Ls (cellOf cy K ln u)) A) (plainFor_of_name (by decide)) (Nat.le_of_ble_eq_true rfl) ?_
  intro p e s m below meth c hsz hx hb hr hml hown hT hlocks hin hK A hA hE hw hS ls hl
  have hw : PW G cy K ln Ls A hp0 s.heap := hw
  have hown : s.vm.findClass "LieClockModel" = some m.cls := hown
  have hl : lv_has ls 2 [(0, .ref qa900), (1, .int zi901)] := hl
  obtain ⟨Q, hQ⟩ : ∃ Q : State → Prop, Q = MQ below (QBi (S := (Nat → Nat → Value)) (fun (r : Int32) (u : (Nat → Nat → Value)) => Ok K u ∧ Fr [93000] K hp0 u) G (fun u => va_pl Ls (cellOf cy K ln u)) A) ([.ref qa900, .int zi901] : List Value).toArray s 0 0 A := ⟨_, rfl⟩
  rw [← hQ]
  refine lv_iload_n hx hb dX12_count_0 rfl (lv_at hl 1 rfl) ?_
  by_cases cn1 : zi901 = 0
  · skip
    refine lv_tableIn (tgt := 64) hx hb dX12_count_1 (by rw [cn1]; decide) (by rw [cn1]; decide) (by rw [cn1]; rfl) (by decide) ?_
    have bd25 : (0 : Int) ≤ zi901.toInt ∧ zi901.toInt ≤ 0 := r_eq_x cn1 (b_all zi901) bc_0 (by decide) (by decide)
    refine lv_aload_n hx hb dX12_count_64 rfl (lv_at hl 0 rfl) ?_
    obtain ⟨qa27, eq26, kd28⟩ := rd_13024 ok0 kd900
    refine p_get (ci := 12) (v := .ref qa27) (C := RX12) (T := TX12) (N := 69) hx hb hT iw_X12 hown hK hw hW kd900 (by decide) rfl rfl 24 (by decide) eq26 (hT _ tb_1398) (fun _ h9 => h9) dX12_count_65 ?_
    refine lv_aload_n hx hb dX12_count_68 rfl (lv_at hl 0 rfl) ?_
    obtain ⟨zi30, eq29, bd31⟩ := rd_13018 ok0 kd900
    refine p_get (ci := 12) (v := .int zi30) (C := RX12) (T := TX12) (N := 69) hx hb hT iw_X12 hown hK hw hW kd900 (by decide) rfl rfl 18 (by decide) eq29 (hT _ tb_1392) (fun _ h9 => h9) dX12_count_69 ?_
    obtain ⟨zi33, eq32, bd34⟩ := rd_70000 ok0 kd28 ((zi30 : Int32).toNatClampNeg)
    refine p_iald (v := zi33) hx hb hK hw hW kd28 (by decide) rfl (hW.len kd28 (n := 2) rfl (by decide)) (vp_b bd31 (by decide) (by decide)) eq32 dX12_count_72 ?_
    rw [hQ]
    exact kz_i hx hb hr hlocks hS rfl hp0 hw ⟨ok0, (Fr.rf)⟩ (Nat.le_of_ble_eq_true rfl) (Nat.le_of_ble_eq_true rfl) dX12_count_73
  by_cases cn2 : zi901 = 1
  · skip
    refine lv_tableIn (tgt := 74) hx hb dX12_count_1 (by rw [cn2]; decide) (by rw [cn2]; decide) (by rw [cn2]; rfl) (by decide) ?_
    have bd35 : (1 : Int) ≤ zi901.toInt ∧ zi901.toInt ≤ 1 := r_eq_x cn2 (b_all zi901) bc_1 (by decide) (by decide)
    refine lv_aload_n hx hb dX12_count_74 rfl (lv_at hl 0 rfl) ?_
    obtain ⟨qa37, eq36, kd38⟩ := rd_13027 ok0 kd900
    refine p_get (ci := 12) (v := .ref qa37) (C := RX12) (T := TX12) (N := 69) hx hb hT iw_X12 hown hK hw hW kd900 (by decide) rfl rfl 27 (by decide) eq36 (hT _ tb_1401) (fun _ h9 => h9) dX12_count_75 ?_
    refine lv_aload_n hx hb dX12_count_78 rfl (lv_at hl 0 rfl) ?_
    obtain ⟨zi40, eq39, bd41⟩ := rd_13018 ok0 kd900
    refine p_get (ci := 12) (v := .int zi40) (C := RX12) (T := TX12) (N := 69) hx hb hT iw_X12 hown hK hw hW kd900 (by decide) rfl rfl 18 (by decide) eq39 (hT _ tb_1392) (fun _ h9 => h9) dX12_count_79 ?_
    obtain ⟨zi43, eq42, bd44⟩ := rd_73000 ok0 kd38 ((zi40 : Int32).toNatClampNeg)
    refine p_iald (v := zi43) hx hb hK hw hW kd38 (by decide) rfl (hW.len kd38 (n := 2) rfl (by decide)) (vp_b bd41 (by decide) (by decide)) eq42 dX12_count_82 ?_
    rw [hQ]
    exact kz_i hx hb hr hlocks hS rfl hp0 hw ⟨ok0, (Fr.rf)⟩ (Nat.le_of_ble_eq_true rfl) (Nat.le_of_ble_eq_true rfl) dX12_count_83
  by_cases cn3 : zi901 = 2
  · skip
    refine lv_tableIn (tgt := 84) hx hb dX12_count_1 (by rw [cn3]; decide) (by rw [cn3]; decide) (by rw [cn3]; rfl) (by decide) ?_
    have bd45 : (2 : Int) ≤ zi901.toInt ∧ zi901.toInt ≤ 2 := r_eq_x cn3 (b_all zi901) bc_2 (by decide) (by decide)
    refine lv_aload_n hx hb dX12_count_84 rfl (lv_at hl 0 rfl) ?_
    obtain ⟨qa47, eq46, kd48⟩ := rd_13028 ok0 kd900
    refine p_get (ci := 12) (v := .ref qa47) (C := RX12) (T := TX12) (N := 69) hx hb hT iw_X12 hown hK hw hW kd900 (by decide) rfl rfl 28 (by decide) eq46 (hT _ tb_1402) (fun _ h9 => h9) dX12_count_85 ?_
    refine lv_aload_n hx hb dX12_count_88 rfl (lv_at hl 0 rfl) ?_
    obtain ⟨zi50, eq49, bd51⟩ := rd_13018 ok0 kd900
    refine p_get (ci := 12) (v := .int zi50) (C := RX12) (T := TX12) (N := 69) hx hb hT iw_X12 hown hK hw hW kd900 (by decide) rfl rfl 18 (by decide) eq49 (hT _ tb_1392) (fun _ h9 => h9) dX12_count_89 ?_
    obtain ⟨zi53, eq52, bd54⟩ := rd_74000 ok0 kd48 ((zi50 : Int32).toNatClampNeg)
    refine p_iald (v := zi53) hx hb hK hw hW kd48 (by decide) rfl (hW.len kd48 (n := 2) rfl (by decide)) (vp_b bd51 (by decide) (by decide)) eq52 dX12_count_92 ?_
    rw [hQ]
    exact kz_i hx hb hr hlocks hS rfl hp0 hw ⟨ok0, (Fr.rf)⟩ (Nat.le_of_ble_eq_true rfl) (Nat.le_of_ble_eq_true rfl) dX12_count_93
  by_cases cn4 : zi901 = 3
  · skip
    refine lv_tableIn (tgt := 94) hx hb dX12_count_1 (by rw [cn4]; decide) (by rw [cn4]; decide) (by rw [cn4]; rfl) (by decide) ?_
    have bd55 : (3 : Int) ≤ zi901.toInt ∧ zi901.toInt ≤ 3 := r_eq_x cn4 (b_all zi901) bc_3 (by decide) (by decide)
    refine lv_aload_n hx hb dX12_count_94 rfl (lv_at hl 0 rfl) ?_
    obtain ⟨qa57, eq56, kd58⟩ := rd_13032 ok0 kd900
    refine p_get (ci := 12) (v := .ref qa57) (C := RX12) (T := TX12) (N := 69) hx hb hT iw_X12 hown hK hw hW kd900 (by decide) rfl rfl 32 (by decide) eq56 (hT _ tb_1406) (fun _ h9 => h9) dX12_count_95 ?_
    refine lv_aload_n hx hb dX12_count_98 rfl (lv_at hl 0 rfl) ?_
    obtain ⟨zi60, eq59, bd61⟩ := rd_13018 ok0 kd900
    refine p_get (ci := 12) (v := .int zi60) (C := RX12) (T := TX12) (N := 69) hx hb hT iw_X12 hown hK hw hW kd900 (by decide) rfl rfl 18 (by decide) eq59 (hT _ tb_1392) (fun _ h9 => h9) dX12_count_99 ?_
    obtain ⟨zi63, eq62, bd64⟩ := rd_78000 ok0 kd58 ((zi60 : Int32).toNatClampNeg)
    refine p_iald (v := zi63) hx hb hK hw hW kd58 (by decide) rfl (hW.len kd58 (n := 2) rfl (by decide)) (vp_b bd61 (by decide) (by decide)) eq62 dX12_count_102 ?_
    rw [hQ]
    exact kz_i hx hb hr hlocks hS rfl hp0 hw ⟨ok0, (Fr.rf)⟩ (Nat.le_of_ble_eq_true rfl) (Nat.le_of_ble_eq_true rfl) dX12_count_103
  by_cases cn5 : zi901 = 4
  · skip
    refine lv_tableIn (tgt := 104) hx hb dX12_count_1 (by rw [cn5]; decide) (by rw [cn5]; decide) (by rw [cn5]; rfl) (by decide) ?_
    have bd65 : (4 : Int) ≤ zi901.toInt ∧ zi901.toInt ≤ 4 := r_eq_x cn5 (b_all zi901) bc_4 (by decide) (by decide)
    refine lv_aload_n hx hb dX12_count_104 rfl (lv_at hl 0 rfl) ?_
    obtain ⟨qa67, eq66, kd68⟩ := rd_13049 ok0 kd900
    refine p_get (ci := 12) (v := .ref qa67) (C := RX12) (T := TX12) (N := 69) hx hb hT iw_X12 hown hK hw hW kd900 (by decide) rfl rfl 49 (by decide) eq66 (hT _ tb_1423) (fun _ h9 => h9) dX12_count_105 ?_
    refine lv_iconst (v := 3) hx hb dX12_count_108 (by decide) ?_
    obtain ⟨zi70, eq69⟩ := rd_92000 ok0 kd68 ((3 : Int32).toNatClampNeg)
    refine p_iald (v := zi70) hx hb hK hw hW kd68 (by decide) rfl (hW.len kd68 (n := 40) rfl (by decide)) (vp_b bc_3 (by decide) (by decide)) eq69 dX12_count_109 ?_
    refine kq_i hw hS hA (va_runS (As := [.int zi70]) (rest := []) ⟨hx, hb, hml, hown, hT⟩ (cX12_bits_0 l G cy ev K ln Ls hW _ hp0 ok0 zi70) (va_cwS 1 hT (good_S tb_1776 tb_1774 tb_1775 tb_122) rfl rfl rfl (by decide +kernel) ⟨Nat.le_of_ble_eq_true rfl, Nat.le_of_ble_eq_true rfl⟩) (PB2.preS hK hE hS hA hw) rfl rfl hl.1 rfl (lv_room (Nat.le_of_ble_eq_true rfl)) dX12_count_110 ⟨Nat.le_of_ble_eq_true rfl, Nat.le_of_ble_eq_true rfl⟩) (fun zi75 hp71 H locs hq74 hw hS => ?_)
    obtain ⟨ok72, F73, bd76, ef77, xq78⟩ := hq74
    obtain rfl : hp0 = hp71 := (Fr.nil F73).symm
    have hw : PW G cy K ln Ls A hp0 H := hw
    rw [hQ]
    exact kz_i hx hb hr hlocks hS rfl hp0 hw ⟨ok0, (Fr.rf)⟩ (Nat.le_of_ble_eq_true rfl) (Nat.le_of_ble_eq_true rfl) dX12_count_113
  by_cases cn6 : zi901 = 5
  · skip
    refine lv_tableIn (tgt := 114) hx hb dX12_count_1 (by rw [cn6]; decide) (by rw [cn6]; decide) (by rw [cn6]; rfl) (by decide) ?_
    have bd79 : (5 : Int) ≤ zi901.toInt ∧ zi901.toInt ≤ 5 := r_eq_x cn6 (b_all zi901) bc_5 (by decide) (by decide)
    refine lv_aload_n hx hb dX12_count_114 rfl (lv_at hl 0 rfl) ?_
    obtain ⟨qa81, eq80, kd82⟩ := rd_13049 ok0 kd900
    refine p_get (ci := 12) (v := .ref qa81) (C := RX12) (T := TX12) (N := 69) hx hb hT iw_X12 hown hK hw hW kd900 (by decide) rfl rfl 49 (by decide) eq80 (hT _ tb_1423) (fun _ h9 => h9) dX12_count_115 ?_
    refine lv_iconst (v := 1) hx hb dX12_count_118 (by decide) ?_
    obtain ⟨zi84, eq83⟩ := rd_92000 ok0 kd82 ((1 : Int32).toNatClampNeg)
    refine p_iald (v := zi84) hx hb hK hw hW kd82 (by decide) rfl (hW.len kd82 (n := 40) rfl (by decide)) (vp_b bc_1 (by decide) (by decide)) eq83 dX12_count_119 ?_
    refine kq_i hw hS hA (va_runS (As := [.int zi84]) (rest := []) ⟨hx, hb, hml, hown, hT⟩ (cX12_bits_0 l G cy ev K ln Ls hW _ hp0 ok0 zi84) (va_cwS 1 hT (good_S tb_1776 tb_1774 tb_1775 tb_122) rfl rfl rfl (by decide +kernel) ⟨Nat.le_of_ble_eq_true rfl, Nat.le_of_ble_eq_true rfl⟩) (PB2.preS hK hE hS hA hw) rfl rfl hl.1 rfl (lv_room (Nat.le_of_ble_eq_true rfl)) dX12_count_120 ⟨Nat.le_of_ble_eq_true rfl, Nat.le_of_ble_eq_true rfl⟩) (fun zi89 hp85 H locs hq88 hw hS => ?_)
    obtain ⟨ok86, F87, bd90, ef91, xq92⟩ := hq88
    obtain rfl : hp0 = hp85 := (Fr.nil F87).symm
    have hw : PW G cy K ln Ls A hp0 H := hw
    rw [hQ]
    exact kz_i hx hb hr hlocks hS rfl hp0 hw ⟨ok0, (Fr.rf)⟩ (Nat.le_of_ble_eq_true rfl) (Nat.le_of_ble_eq_true rfl) dX12_count_123
  by_cases cn7 : zi901 = 6
  · skip
    refine lv_tableIn (tgt := 124) hx hb dX12_count_1 (by rw [cn7]; decide) (by rw [cn7]; decide) (by rw [cn7]; rfl) (by decide) ?_
    have bd93 : (6 : Int) ≤ zi901.toInt ∧ zi901.toInt ≤ 6 := r_eq_x cn7 (b_all zi901) bc_6 (by decide) (by decide)
    refine lv_aload_n hx hb dX12_count_124 rfl (lv_at hl 0 rfl) ?_
    obtain ⟨qa95, eq94, kd96⟩ := rd_13049 ok0 kd900
    refine p_get (ci := 12) (v := .ref qa95) (C := RX12) (T := TX12) (N := 69) hx hb hT iw_X12 hown hK hw hW kd900 (by decide) rfl rfl 49 (by decide) eq94 (hT _ tb_1423) (fun _ h9 => h9) dX12_count_125 ?_
    refine lv_iconst (v := 2) hx hb dX12_count_128 (by decide) ?_
    obtain ⟨zi98, eq97⟩ := rd_92000 ok0 kd96 ((2 : Int32).toNatClampNeg)
    refine p_iald (v := zi98) hx hb hK hw hW kd96 (by decide) rfl (hW.len kd96 (n := 40) rfl (by decide)) (vp_b bc_2 (by decide) (by decide)) eq97 dX12_count_129 ?_
    refine kq_i hw hS hA (va_runS (As := [.int zi98]) (rest := []) ⟨hx, hb, hml, hown, hT⟩ (cX12_bits_0 l G cy ev K ln Ls hW _ hp0 ok0 zi98) (va_cwS 1 hT (good_S tb_1776 tb_1774 tb_1775 tb_122) rfl rfl rfl (by decide +kernel) ⟨Nat.le_of_ble_eq_true rfl, Nat.le_of_ble_eq_true rfl⟩) (PB2.preS hK hE hS hA hw) rfl rfl hl.1 rfl (lv_room (Nat.le_of_ble_eq_true rfl)) dX12_count_130 ⟨Nat.le_of_ble_eq_true rfl, Nat.le_of_ble_eq_true rfl⟩) (fun zi103 hp99 H locs hq102 hw hS => ?_)
    obtain ⟨ok100, F101, bd104, ef105, xq106⟩ := hq102
    obtain rfl : hp0 = hp99 := (Fr.nil F101).symm
    have hw : PW G cy K ln Ls A hp0 H := hw
    rw [hQ]
    exact kz_i hx hb hr hlocks hS rfl hp0 hw ⟨ok0, (Fr.rf)⟩ (Nat.le_of_ble_eq_true rfl) (Nat.le_of_ble_eq_true rfl) dX12_count_133
  by_cases cn8 : zi901 = 7
  · skip
    refine lv_tableIn (tgt := 134) hx hb dX12_count_1 (by rw [cn8]; decide) (by rw [cn8]; decide) (by rw [cn8]; rfl) (by decide) ?_
    have bd107 : (7 : Int) ≤ zi901.toInt ∧ zi901.toInt ≤ 7 := r_eq_x cn8 (b_all zi901) bc_7 (by decide) (by decide)
    refine lv_aload_n hx hb dX12_count_134 rfl (lv_at hl 0 rfl) ?_
    refine kq_v hw hS hA (va_runV (As := []) (rest := []) ⟨hx, hb, hml, hown, hT⟩ (cX12_copies_0 l G cy ev K ln Ls hW _ hp0 ok0 qa900 kd900) (cwV 0 hT (good_V tb_1769 tb_1766 tb_1768 tb_81 tb_122) rfl rfl rfl (by decide +kernel) ⟨Nat.le_of_ble_eq_true rfl, Nat.le_of_ble_eq_true rfl⟩) (pool_preV (ci := 12) hK hE hS hA hw hW kd900 (by decide) rfl) rfl rfl hl.1 rfl (lv_room (Nat.le_of_ble_eq_true rfl)) dX12_count_135 ⟨Nat.le_of_ble_eq_true rfl, Nat.le_of_ble_eq_true rfl⟩) (fun hp108 H locs hq111 hw hS => ?_)
    obtain ⟨ok109, F110⟩ := hq111
    have hw : PW G cy K ln Ls A hp108 H := hw
    refine lv_aload_n hx hb dX12_count_138 rfl (lv_at hl 0 rfl) ?_
    refine kq_i hw hS hA (va_runV (As := []) (rest := []) ⟨hx, hb, hml, hown, hT⟩ (cX12_heardAll_0 l G cy ev K ln Ls hW _ hp108 ok109 qa900 kd900) (cwV 0 hT (good_V tb_1822 tb_1819 tb_1821 tb_90 tb_122) rfl rfl rfl (by decide +kernel) ⟨Nat.le_of_ble_eq_true rfl, Nat.le_of_ble_eq_true rfl⟩) (pool_preV (ci := 12) hK hE hS hA hw hW kd900 (by decide) rfl) rfl rfl hl.1 rfl (lv_room (Nat.le_of_ble_eq_true rfl)) dX12_count_139 ⟨Nat.le_of_ble_eq_true rfl, Nat.le_of_ble_eq_true rfl⟩) (fun zi117 hp113 H locs hq116 hw hS => ?_)
    obtain ⟨ok114, F115⟩ := hq116
    obtain rfl : hp108 = hp113 := (Fr.nil F115).symm
    have hw : PW G cy K ln Ls A hp108 H := hw
    rw [hQ]
    exact kz_i hx hb hr hlocks hS rfl hp108 hw ⟨ok109, (Fr.tr (Fr.rf) F110 (by decide))⟩ (Nat.le_of_ble_eq_true rfl) (Nat.le_of_ble_eq_true rfl) dX12_count_142
  by_cases cn9 : zi901 = 8
  · skip
    refine lv_tableIn (tgt := 143) hx hb dX12_count_1 (by rw [cn9]; decide) (by rw [cn9]; decide) (by rw [cn9]; rfl) (by decide) ?_
    have bd118 : (8 : Int) ≤ zi901.toInt ∧ zi901.toInt ≤ 8 := r_eq_x cn9 (b_all zi901) bc_8 (by decide) (by decide)
    refine lv_aload_n hx hb dX12_count_143 rfl (lv_at hl 0 rfl) ?_
    obtain ⟨zi120, eq119, bd121⟩ := rd_13061 ok0 kd900
    refine p_get (ci := 12) (v := .int zi120) (C := RX12) (T := TX12) (N := 69) hx hb hT iw_X12 hown hK hw hW kd900 (by decide) rfl rfl 61 (by decide) eq119 (hT _ tb_1435) (fun _ h9 => h9) dX12_count_144 ?_
    rw [hQ]
    exact kz_i hx hb hr hlocks hS rfl hp0 hw ⟨ok0, (Fr.rf)⟩ (Nat.le_of_ble_eq_true rfl) (Nat.le_of_ble_eq_true rfl) dX12_count_147
  by_cases cn10 : zi901 = 9
  · skip
    refine lv_tableIn (tgt := 148) hx hb dX12_count_1 (by rw [cn10]; decide) (by rw [cn10]; decide) (by rw [cn10]; rfl) (by decide) ?_
    have bd122 : (9 : Int) ≤ zi901.toInt ∧ zi901.toInt ≤ 9 := r_eq_x cn10 (b_all zi901) bc_9 (by decide) (by decide)
    refine lv_aload_n hx hb dX12_count_148 rfl (lv_at hl 0 rfl) ?_
    obtain ⟨zi124, eq123, bd125⟩ := rd_13002 ok0 kd900
    refine p_get (ci := 12) (v := .int zi124) (C := RX12) (T := TX12) (N := 69) hx hb hT iw_X12 hown hK hw hW kd900 (by decide) rfl rfl 2 (by decide) eq123 (hT _ tb_1376) (fun _ h9 => h9) dX12_count_149 ?_
    rw [hQ]
    exact kz_i hx hb hr hlocks hS rfl hp0 hw ⟨ok0, (Fr.rf)⟩ (Nat.le_of_ble_eq_true rfl) (Nat.le_of_ble_eq_true rfl) dX12_count_152
  by_cases cn11 : zi901 = 10
  · skip
    refine lv_tableIn (tgt := 153) hx hb dX12_count_1 (by rw [cn11]; decide) (by rw [cn11]; decide) (by rw [cn11]; rfl) (by decide) ?_
    have bd126 : (10 : Int) ≤ zi901.toInt ∧ zi901.toInt ≤ 10 := r_eq_x cn11 (b_all zi901) bc_10 (by decide) (by decide)
    refine lv_aload_n hx hb dX12_count_153 rfl (lv_at hl 0 rfl) ?_
    obtain ⟨zi128, eq127, bd129⟩ := rd_13053 ok0 kd900
    refine p_get (ci := 12) (v := .int zi128) (C := RX12) (T := TX12) (N := 69) hx hb hT iw_X12 hown hK hw hW kd900 (by decide) rfl rfl 53 (by decide) eq127 (hT _ tb_1427) (fun _ h9 => h9) dX12_count_154 ?_
    rw [hQ]
    exact kz_i hx hb hr hlocks hS rfl hp0 hw ⟨ok0, (Fr.rf)⟩ (Nat.le_of_ble_eq_true rfl) (Nat.le_of_ble_eq_true rfl) dX12_count_157
  by_cases cn12 : zi901 = 11
  · skip
    refine lv_tableIn (tgt := 158) hx hb dX12_count_1 (by rw [cn12]; decide) (by rw [cn12]; decide) (by rw [cn12]; rfl) (by decide) ?_
    have bd130 : (11 : Int) ≤ zi901.toInt ∧ zi901.toInt ≤ 11 := r_eq_x cn12 (b_all zi901) bc_11 (by decide) (by decide)
    refine lv_aload_n hx hb dX12_count_158 rfl (lv_at hl 0 rfl) ?_
    obtain ⟨qa132, eq131, kd133⟩ := rd_13067 ok0 kd900
    refine p_get (ci := 12) (v := .ref qa132) (C := RX12) (T := TX12) (N := 69) hx hb hT iw_X12 hown hK hw hW kd900 (by decide) rfl rfl 67 (by decide) eq131 (hT _ tb_1441) (fun _ h9 => h9) dX12_count_159 ?_
    refine lv_iconst (v := 0) hx hb dX12_count_162 (by decide) ?_
    obtain ⟨zi135, eq134, bd136⟩ := rd_101000 ok0 kd133 ((0 : Int32).toNatClampNeg)
    refine p_zald (v := zi135) hx hb hK hw hW kd133 (by decide) rfl (hW.len kd133 (n := 3) rfl (by decide)) (vp_b bc_0 (by decide) (by decide)) eq134 dX12_count_163 ?_
    have jn142 : ∀ (zi140 : Int32) (H : Heap) (locs : List Loc) (ls : Array Slot), ((0 : Int) ≤ zi140.toInt ∧ zi140.toInt ≤ 1) → lv_has ls 2 [(0, .ref qa900)] → PW G cy K ln Ls A hp0 H → va_S A s.heap H locs → W p l e ({ frames := 1, cells := 0, slots := 0, locals := 22 } : Room) s m ([.ref qa900, .int zi901] : List Value).toArray below meth c H locs 0 0 Q (F0 m 172 ls [.int zi140]) := by
      intro zi140 H locs ls bd141 hl hw hS
      refine lv_aload_n hx hb dX12_count_172 rfl (lv_at hl 0 rfl) ?_
      refine p_get (ci := 12) (v := .ref qa132) (C := RX12) (T := TX12) (N := 69) hx hb hT iw_X12 hown hK hw hW kd900 (by decide) rfl rfl 67 (by decide) eq131 (hT _ tb_1441) (fun _ h9 => h9) dX12_count_173 ?_
      refine lv_iconst (v := 1) hx hb dX12_count_176 (by decide) ?_
      obtain ⟨zi144, eq143, bd145⟩ := rd_101000 ok0 kd133 ((1 : Int32).toNatClampNeg)
      refine p_zald (v := zi144) hx hb hK hw hW kd133 (by decide) rfl (hW.len kd133 (n := 3) rfl (by decide)) (vp_b bc_1 (by decide) (by decide)) eq143 dX12_count_177 ?_
      have jn151 : ∀ (zi149 : Int32) (H : Heap) (locs : List Loc) (ls : Array Slot), ((0 : Int) ≤ zi149.toInt ∧ zi149.toInt ≤ 1) → lv_has ls 2 [(0, .ref qa900)] → PW G cy K ln Ls A hp0 H → va_S A s.heap H locs → W p l e ({ frames := 1, cells := 0, slots := 0, locals := 22 } : Room) s m ([.ref qa900, .int zi901] : List Value).toArray below meth c H locs 0 0 Q (F0 m 186 ls [.int zi149, .int zi140]) := by
        intro zi149 H locs ls bd150 hl hw hS
        refine lv_iadd hx hb dX12_count_186 (lv_topi (fun zi152 ea153 => ?_))
        have bd154 : (0 : Int) ≤ zi152.toInt ∧ zi152.toInt ≤ 2 := b_iadd ea153 bd141 bd150 (by decide) (by decide) (by decide) (by decide)
        refine lv_aload_n hx hb dX12_count_187 rfl (lv_at hl 0 rfl) ?_
        refine p_get (ci := 12) (v := .ref qa132) (C := RX12) (T := TX12) (N := 69) hx hb hT iw_X12 hown hK hw hW kd900 (by decide) rfl rfl 67 (by decide) eq131 (hT _ tb_1441) (fun _ h9 => h9) dX12_count_188 ?_
        refine lv_iconst (v := 2) hx hb dX12_count_191 (by decide) ?_
        obtain ⟨zi156, eq155, bd157⟩ := rd_101000 ok0 kd133 ((2 : Int32).toNatClampNeg)
        refine p_zald (v := zi156) hx hb hK hw hW kd133 (by decide) rfl (hW.len kd133 (n := 3) rfl (by decide)) (vp_b bc_2 (by decide) (by decide)) eq155 dX12_count_192 ?_
        have jn163 : ∀ (zi161 : Int32) (H : Heap) (locs : List Loc) (ls : Array Slot), ((0 : Int) ≤ zi161.toInt ∧ zi161.toInt ≤ 1) → lv_has ls 2 [] → PW G cy K ln Ls A hp0 H → va_S A s.heap H locs → W p l e ({ frames := 1, cells := 0, slots := 0, locals := 22 } : Room) s m ([.ref qa900, .int zi901] : List Value).toArray below meth c H locs 0 0 Q (F0 m 201 ls [.int zi161, .int zi152]) := by
          intro zi161 H locs ls bd162 hl hw hS
          refine lv_iadd hx hb dX12_count_201 (lv_topi (fun zi164 ea165 => ?_))
          have bd166 : (0 : Int) ≤ zi164.toInt ∧ zi164.toInt ≤ 3 := b_iadd ea165 bd154 bd162 (by decide) (by decide) (by decide) (by decide)
          rw [hQ]
          exact kz_i hx hb hr hlocks hS rfl hp0 hw ⟨ok0, (Fr.rf)⟩ (Nat.le_of_ble_eq_true rfl) (Nat.le_of_ble_eq_true rfl) dX12_count_202
        refine lv_if_eq (tgt := 200) hx hb dX12_count_193 (by decide) (fun cn158 => ?_) (fun cn158 => ?_)
        · skip
          have bd167 : (0 : Int) ≤ zi156.toInt ∧ zi156.toInt ≤ 0 := r_eq_x cn158 bd157 bc_0 (by decide) (by decide)
          refine lv_iconst (v := 0) hx hb dX12_count_200 (by decide) ?_
          exact jn163 0 _ _ ls (b_wid2 bc_0 (by decide) (by decide)) (lv_sub hl [] rfl) hw hS
        · skip
          have bd168 : (1 : Int) ≤ zi156.toInt ∧ zi156.toInt ≤ 1 := r_ne_lo cn158 bd157 (toi bc_0) (by decide) (by decide)
          refine lv_iconst (v := 1) hx hb dX12_count_196 (by decide) ?_
          refine lv_goto (tgt := 201) hx hb dX12_count_197 (by decide) ?_
          exact jn163 1 _ _ ls (b_wid2 bc_1 (by decide) (by decide)) (lv_sub hl [] rfl) hw hS
      refine lv_if_eq (tgt := 185) hx hb dX12_count_178 (by decide) (fun cn146 => ?_) (fun cn146 => ?_)
      · skip
        have bd169 : (0 : Int) ≤ zi144.toInt ∧ zi144.toInt ≤ 0 := r_eq_x cn146 bd145 bc_0 (by decide) (by decide)
        refine lv_iconst (v := 0) hx hb dX12_count_185 (by decide) ?_
        exact jn151 0 _ _ ls (b_wid2 bc_0 (by decide) (by decide)) (lv_sub hl [0] rfl) hw hS
      · skip
        have bd170 : (1 : Int) ≤ zi144.toInt ∧ zi144.toInt ≤ 1 := r_ne_lo cn146 bd145 (toi bc_0) (by decide) (by decide)
        refine lv_iconst (v := 1) hx hb dX12_count_181 (by decide) ?_
        refine lv_goto (tgt := 186) hx hb dX12_count_182 (by decide) ?_
        exact jn151 1 _ _ ls (b_wid2 bc_1 (by decide) (by decide)) (lv_sub hl [0] rfl) hw hS
    refine lv_if_eq (tgt := 171) hx hb dX12_count_164 (by decide) (fun cn137 => ?_) (fun cn137 => ?_)
    · skip
      have bd171 : (0 : Int) ≤ zi135.toInt ∧ zi135.toInt ≤ 0 := r_eq_x cn137 bd136 bc_0 (by decide) (by decide)
      refine lv_iconst (v := 0) hx hb dX12_count_171 (by decide) ?_
      exact jn142 0 _ _ ls (b_wid2 bc_0 (by decide) (by decide)) (lv_sub hl [0] rfl) hw hS
    · skip
      have bd172 : (1 : Int) ≤ zi135.toInt ∧ zi135.toInt ≤ 1 := r_ne_lo cn137 bd136 (toi bc_0) (by decide) (by decide)
      refine lv_iconst (v := 1) hx hb dX12_count_167 (by decide) ?_
      refine lv_goto (tgt := 172) hx hb dX12_count_168 (by decide) ?_
      exact jn142 1 _ _ ls (b_wid2 bc_1 (by decide) (by decide)) (lv_sub hl [0] rfl) hw hS
  have nn13 : zi901.toInt ≠ 0 := fun e => cn1 (Int32.toInt_inj.mp (e.trans (by decide)))
  have nn14 : zi901.toInt ≠ 1 := fun e => cn2 (Int32.toInt_inj.mp (e.trans (by decide)))
  have nn15 : zi901.toInt ≠ 2 := fun e => cn3 (Int32.toInt_inj.mp (e.trans (by decide)))
  have nn16 : zi901.toInt ≠ 3 := fun e => cn4 (Int32.toInt_inj.mp (e.trans (by decide)))
  have nn17 : zi901.toInt ≠ 4 := fun e => cn5 (Int32.toInt_inj.mp (e.trans (by decide)))
  have nn18 : zi901.toInt ≠ 5 := fun e => cn6 (Int32.toInt_inj.mp (e.trans (by decide)))
  have nn19 : zi901.toInt ≠ 6 := fun e => cn7 (Int32.toInt_inj.mp (e.trans (by decide)))
  have nn20 : zi901.toInt ≠ 7 := fun e => cn8 (Int32.toInt_inj.mp (e.trans (by decide)))
  have nn21 : zi901.toInt ≠ 8 := fun e => cn9 (Int32.toInt_inj.mp (e.trans (by decide)))
  have nn22 : zi901.toInt ≠ 9 := fun e => cn10 (Int32.toInt_inj.mp (e.trans (by decide)))
  have nn23 : zi901.toInt ≠ 10 := fun e => cn11 (Int32.toInt_inj.mp (e.trans (by decide)))
  have nn24 : zi901.toInt ≠ 11 := fun e => cn12 (Int32.toInt_inj.mp (e.trans (by decide)))
  refine lv_tableOut (tgt := 203) hx hb dX12_count_1 (by have := (b_all zi901); omega) (by decide) ?_
  refine lv_iconst (v := (-1)) hx hb dX12_count_203 (by decide) ?_
  rw [hQ]
  exact kz_i hx hb hr hlocks hS rfl hp0 hw ⟨ok0, (Fr.rf)⟩ (Nat.le_of_ble_eq_true rfl) (Nat.le_of_ble_eq_true rfl) dX12_count_204
