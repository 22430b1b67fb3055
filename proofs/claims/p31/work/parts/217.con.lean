set_option maxRecDepth 100000 in
set_option maxHeartbeats 4000000 in
theorem cX12_wordsOf_0 (l : Launch) (G : va_G) (cy : Nat → ClassId) (ev : Ew) (K ln : Nat → Nat) (Ls : List Nat) (hW : SW K ln Ls) (sz : Nat) (hp0 : Nat → Nat → Value) (ok0 : Ok K hp0) (qa900 : Nat) (zi901 : Int32) (kd900 : K qa900 = 13) : Met l yX12_wordsOf (WS yX12_wordsOf cX12_wordsOf 4 (some .int)) { frames := 0, cells := 0, slots := 0, locals := 0 } (PB2 [.ref qa900, .int zi901] sz G cy ev (va_pl Ls (cellOf cy K ln hp0))) (QBi (S := (Nat → Nat → Value)) (fun (r : Int32) (u : (Nat → Nat → Value)) => Ok K u ∧ Fr [] K hp0 u) G (fun u => va_pl Ls (cellOf cy K ln u)) (va_A (va_pl Ls (cellOf cy K ln hp0)) sz)) 0 0 (va_A (va_pl Ls (cellOf cy K ln hp0)) sz) := by
  refine met_of2 (y := yX12_wordsOf) (L := 4) (av := [.ref qa900, .int zi901]) (Qc := fun A => QBi (S := (Nat → Nat → Value)) (fun (r : Int32) (u : (Nat → Nat → Value)) => Ok K u ∧ Fr [] K hp0 u) G (fun u => va_pl Ls (cellOf cy K ln u)) A) (plainFor_of_name (by decide)) (Nat.le_of_ble_eq_true rfl) ?_
  intro p e s m below meth c hsz hx hb hr hml hown hT hlocks hin hK A hA hE hw hS ls hl
  have hw : PW G cy K ln Ls A hp0 s.heap := hw
  have hown : s.vm.findClass "LieClockModel" = some m.cls := hown
  have hl : lv_has ls 4 [(0, .ref qa900), (1, .int zi901)] := hl
  obtain ⟨Q, hQ⟩ : ∃ Q : State → Prop, Q = MQ below (QBi (S := (Nat → Nat → Value)) (fun (r : Int32) (u : (Nat → Nat → Value)) => Ok K u ∧ Fr [] K hp0 u) G (fun u => va_pl Ls (cellOf cy K ln u)) A) ([.ref qa900, .int zi901] : List Value).toArray s 0 0 A := ⟨_, rfl⟩
  rw [← hQ]
  refine lv_iconst (v := 0) hx hb dX12_wordsOf_0 (by decide) ?_
  refine lv_istore_n (lv' := [(2, .int 0), (0, .ref qa900), (1, .int zi901)]) hx hb dX12_wordsOf_1 rfl hl (by decide) rfl (fun ls hl => ?_)
  refine lv_iconst (v := 0) hx hb dX12_wordsOf_2 (by decide) ?_
  refine lv_istore_n (lv' := [(3, .int 0), (2, .int 0), (0, .ref qa900), (1, .int zi901)]) hx hb dX12_wordsOf_3 rfl hl (by decide) rfl (fun ls hl => ?_)
  have lp315 : ∀ (n313 : Nat) (zi222 : Int32) (zi223 : Int32) (H : Heap) (locs : List Loc) (ls : Array Slot), 16 - zi223.toInt < (n313 : Int) → ((0 : Int) ≤ zi223.toInt ∧ zi223.toInt ≤ 16) → lv_has ls 4 [(0, .ref qa900), (1, .int zi901), (2, .int zi222), (3, .int zi223)] → PW G cy K ln Ls A hp0 H → va_S A s.heap H locs → W p l e ({ frames := 0, cells := 0, slots := 0, locals := 0 } : Room) s m ([.ref qa900, .int zi901] : List Value).toArray below meth c H locs 0 0 Q (F0 m 4 ls []) := by
    intro n313
    induction n313 with
    | zero =>
      intro zi222 zi223 H locs ls hm316 bd224 hl hw hS
      exact absurd hm316 (by have := bd224; omega)
    | succ n313 ih314 =>
      intro zi222 zi223 H locs ls hm316 bd224 hl hw hS
      refine lv_iload_n hx hb dX12_wordsOf_4 rfl (lv_at hl 3 rfl) ?_
      refine lv_aload_n hx hb dX12_wordsOf_5 rfl (lv_at hl 0 rfl) ?_
      obtain ⟨qa318, eq317, kd319⟩ := rd_13028 ok0 kd900
      refine p_get (ci := 12) (v := .ref qa318) (C := RX12) (T := TX12) (N := 69) hx hb hT iw_X12 hown hK hw hW kd900 (by decide) rfl rfl 28 (by decide) eq317 (hT _ tb_1402) (fun _ h9 => h9) dX12_wordsOf_6 ?_
      refine lv_aload_n hx hb dX12_wordsOf_9 rfl (lv_at hl 0 rfl) ?_
      obtain ⟨zi321, eq320, bd322⟩ := rd_13018 ok0 kd900
      refine p_get (ci := 12) (v := .int zi321) (C := RX12) (T := TX12) (N := 69) hx hb hT iw_X12 hown hK hw hW kd900 (by decide) rfl rfl 18 (by decide) eq320 (hT _ tb_1392) (fun _ h9 => h9) dX12_wordsOf_10 ?_
      obtain ⟨zi324, eq323, bd325⟩ := rd_74000 ok0 kd319 ((zi321 : Int32).toNatClampNeg)
      refine p_iald (v := zi324) hx hb hK hw hW kd319 (by decide) rfl (hW.len kd319 (n := 2) rfl (by decide)) (vp_b bd322 (by decide) (by decide)) eq323 dX12_wordsOf_13 ?_
      refine lv_icmp_ge (tgt := 47) hx hb dX12_wordsOf_14 (by decide) (fun cn326 => ?_) (fun cn326 => ?_)
      · skip
        refine lv_iload_n hx hb dX12_wordsOf_47 rfl (lv_at hl 2 rfl) ?_
        rw [hQ]
        exact kz_i hx hb hr hlocks hS rfl hp0 hw ⟨ok0, (Fr.rf)⟩ (Nat.le_of_ble_eq_true rfl) (Nat.le_of_ble_eq_true rfl) dX12_wordsOf_48
      · skip
        have bd361 : (0 : Int) ≤ zi223.toInt ∧ zi223.toInt ≤ 15 := r_lt_x (Int32.not_le.mp cn326) bd224 bd325 (by decide) (by decide)
        have bd362 : (1 : Int) ≤ zi324.toInt ∧ zi324.toInt ≤ 16 := r_lt_y (Int32.not_le.mp cn326) bd224 bd325 (by decide) (by decide)
        refine lv_aload_n hx hb dX12_wordsOf_17 rfl (lv_at hl 0 rfl) ?_
        obtain ⟨qa364, eq363, kd365⟩ := rd_13029 ok0 kd900
        refine p_get (ci := 12) (v := .ref qa364) (C := RX12) (T := TX12) (N := 69) hx hb hT iw_X12 hown hK hw hW kd900 (by decide) rfl rfl 29 (by decide) eq363 (hT _ tb_1403) (fun _ h9 => h9) dX12_wordsOf_18 ?_
        refine lv_bipush (v := 16) hx hb dX12_wordsOf_21 (by decide) ?_
        refine lv_aload_n hx hb dX12_wordsOf_23 rfl (lv_at hl 0 rfl) ?_
        refine p_get (ci := 12) (v := .int zi321) (C := RX12) (T := TX12) (N := 69) hx hb hT iw_X12 hown hK hw hW kd900 (by decide) rfl rfl 18 (by decide) eq320 (hT _ tb_1392) (fun _ h9 => h9) dX12_wordsOf_24 ?_
        refine lv_imul hx hb dX12_wordsOf_27 (lv_topi (fun zi366 ea367 => ?_))
        have bd368 : (0 : Int) ≤ zi366.toInt ∧ zi366.toInt ≤ 16 := b_imul ea367 bc_16 bd322 (by decide) (by decide) (by decide) (by decide) (by decide)
        refine lv_iload_n hx hb dX12_wordsOf_28 rfl (lv_at hl 3 rfl) ?_
        refine lv_iadd hx hb dX12_wordsOf_29 (lv_topi (fun zi369 ea370 => ?_))
        have bd371 : (0 : Int) ≤ zi369.toInt ∧ zi369.toInt ≤ 31 := b_iadd ea370 bd368 bd361 (by decide) (by decide) (by decide) (by decide)
        obtain ⟨zi373, eq372, bd374⟩ := rd_75000 ok0 kd365 ((zi369 : Int32).toNatClampNeg)
        refine p_iald (v := zi373) hx hb hK hw hW kd365 (by decide) rfl (hW.len kd365 (n := 32) rfl (by decide)) (vp_b bd371 (by decide) (by decide)) eq372 dX12_wordsOf_30 ?_
        refine lv_iload_n hx hb dX12_wordsOf_31 rfl (lv_at hl 1 rfl) ?_
        have jn383 : ∀ (zi382 : Int32) (H : Heap) (locs : List Loc) (ls : Array Slot), lv_has ls 4 [(0, .ref qa900), (1, .int zi901), (2, .int zi382), (3, .int zi223)] → PW G cy K ln Ls A hp0 H → va_S A s.heap H locs → W p l e ({ frames := 0, cells := 0, slots := 0, locals := 0 } : Room) s m ([.ref qa900, .int zi901] : List Value).toArray below meth c H locs 0 0 Q (F0 m 41 ls []) := by
          intro zi382 H locs ls hl hw hS
          obtain ⟨zi384, ea385⟩ : ∃ z : Int32, z = zi223 + 1 := ⟨_, rfl⟩
          have bd386 : (1 : Int) ≤ zi384.toInt ∧ zi384.toInt ≤ 16 := b_iadd ea385 bd361 bc_1 (by decide) (by decide) (by decide) (by decide)
          have qe387 : zi384.toInt = (zi223 : Int32).toInt + (1 : Int32).toInt := e_iadd ea385 bd361 bc_1 (by decide) (by decide)
          have qe388 : zi384.toInt = zi223.toInt + 1 := by have ha : (1 : Int32).toInt = 1 := (by decide); rw [ha] at qe387; exact qe387
          refine lv_iinc (v := zi384) (lv' := [(3, .int zi384), (0, .ref qa900), (1, .int zi901), (2, .int zi382)]) hx hb dX12_wordsOf_41 hl (k := 3) rfl ea385.symm (by decide) rfl (fun ls hl => ?_)
          refine lv_goto (tgt := 4) hx hb dX12_wordsOf_44 (by decide) ?_
          exact ih314 zi382 zi384 _ _ ls (by have := hm316; have := qe388; omega) (b_wid2 bd386 (by decide) (by decide)) (lv_sub hl [1, 2, 3, 0] rfl) hw hS
        refine lv_icmp_ne (tgt := 41) hx hb dX12_wordsOf_32 (by decide) (fun cn375 => ?_) (fun cn375 => ?_)
        · skip
          exact jn383 zi222 _ _ ls (lv_sub hl [0, 1, 2, 3] rfl) hw hS
        · skip
          have bd389 : (-1 : Int) ≤ zi901.toInt ∧ zi901.toInt ≤ 7 := r_eq_x (cn375).symm (b_all zi901) bd374 (by decide) (by decide)
          refine lv_iload_n hx hb dX12_wordsOf_35 rfl (lv_at hl 2 rfl) ?_
          refine lv_iconst (v := 1) hx hb dX12_wordsOf_36 (by decide) ?_
          refine lv_iload_n hx hb dX12_wordsOf_37 rfl (lv_at hl 3 rfl) ?_
          refine lv_ishl hx hb dX12_wordsOf_38 (lv_topi (fun zi390 ea391 => ?_))
          have bd392 : (1 : Int) ≤ zi390.toInt ∧ zi390.toInt ≤ 32768 := b_shl1 15 ea391 bd361 (by decide) (by decide) (by decide) (by decide) (by decide)
          refine lv_ior hx hb dX12_wordsOf_39 (lv_topi (fun zi393 ea394 => ?_))
          refine lv_istore_n (lv' := [(2, .int zi393), (0, .ref qa900), (1, .int zi901), (3, .int zi223)]) hx hb dX12_wordsOf_40 rfl hl (by decide) rfl (fun ls hl => ?_)
          exact jn383 zi393 _ _ ls (lv_sub hl [1, 2, 0, 3] rfl) hw hS
  exact lp315 _ 0 0 _ _ ls (lp_in _) (b_wid2 bc_0 (by decide) (by decide)) (lv_sub hl [2, 3, 1, 0] rfl) hw hS

set_option maxRecDepth 100000 in
set_option maxHeartbeats 4000000 in
theorem cX12_minutesBy_0 (l : Launch) (G : va_G) (cy : Nat → ClassId) (ev : Ew) (K ln : Nat → Nat) (Ls : List Nat) (hW : SW K ln Ls) (sz : Nat) (hp0 : Nat → Nat → Value) (ok0 : Ok K hp0) (qa900 : Nat) (zi901 : Int32) (zi902 : Int32) (kd900 : K qa900 = 13) (bd901 : ((0 : Int) ≤ zi901.toInt ∧ zi901.toInt ≤ 1)) (bd902 : ((-1 : Int) ≤ zi902.toInt ∧ zi902.toInt ≤ 7)) (pdLW : LW hp0 qa900) : Met l yX12_minutesBy (WS yX12_minutesBy cX12_minutesBy 7 (some .int)) { frames := 1, cells := 0, slots := 0, locals := 27 } (PB2 [.ref qa900, .int zi901, .int zi902] sz G cy ev (va_pl Ls (cellOf cy K ln hp0))) (QBi (S := (Nat → Nat → Value)) (fun (r : Int32) (u : (Nat → Nat → Value)) => Ok K u ∧ Fr [13048, 90000, 91000] K hp0 u ∧ ((0 : Int) ≤ r.toInt ∧ r.toInt ≤ 120)) G (fun u => va_pl Ls (cellOf cy K ln u)) (va_A (va_pl Ls (cellOf cy K ln hp0)) sz)) 0 0 (va_A (va_pl Ls (cellOf cy K ln hp0)) sz) := by
  refine met_of2 (y := yX12_minutesBy) (L := 7) (av := [.ref qa900, .int zi901, .int zi902]) (Qc := fun A => QBi (S := (Nat → Nat → Value)) (fun (r : Int32) (u : (Nat → Nat → Value)) => Ok K u ∧ Fr [13048, 90000, 91000] K hp0 u ∧ ((0 : Int) ≤ r.toInt ∧ r.toInt ≤ 120)) G (fun u => va_pl Ls (cellOf cy K ln u)) A) (plainFor_of_name (by decide)) (Nat.le_of_ble_eq_true rfl) ?_
  intro p e s m below meth c hsz hx hb hr hml hown hT hlocks hin hK A hA hE hw hS ls hl
  have hw : PW G cy K ln Ls A hp0 s.heap := hw
  have hown : s.vm.findClass "LieClockModel" = some m.cls := hown
  have hl : lv_has ls 7 [(0, .ref qa900), (1, .int zi901), (2, .int zi902)] := hl
  obtain ⟨Q, hQ⟩ : ∃ Q : State → Prop, Q = MQ below (QBi (S := (Nat → Nat → Value)) (fun (r : Int32) (u : (Nat → Nat → Value)) => Ok K u ∧ Fr [13048, 90000, 91000] K hp0 u ∧ ((0 : Int) ≤ r.toInt ∧ r.toInt ≤ 120)) G (fun u => va_pl Ls (cellOf cy K ln u)) A) ([.ref qa900, .int zi901, .int zi902] : List Value).toArray s 0 0 A := ⟨_, rfl⟩
  rw [← hQ]
  refine lv_aload_n hx hb dX12_minutesBy_0 rfl (lv_at hl 0 rfl) ?_
  obtain ⟨qa2, eq1, kd3⟩ := rd_13035 ok0 kd900
  refine p_get (ci := 12) (v := .ref qa2) (C := RX12) (T := TX12) (N := 69) hx hb hT iw_X12 hown hK hw hW kd900 (by decide) rfl rfl 35 (by decide) eq1 (hT _ tb_1409) (fun _ h9 => h9) dX12_minutesBy_1 ?_
  refine lv_iconst (v := 2) hx hb dX12_minutesBy_4 (by decide) ?_
  refine lv_aload_n hx hb dX12_minutesBy_5 rfl (lv_at hl 0 rfl) ?_
  obtain ⟨zi5, eq4, bd6⟩ := rd_13018 ok0 kd900
  refine p_get (ci := 12) (v := .int zi5) (C := RX12) (T := TX12) (N := 69) hx hb hT iw_X12 hown hK hw hW kd900 (by decide) rfl rfl 18 (by decide) eq4 (hT _ tb_1392) (fun _ h9 => h9) dX12_minutesBy_6 ?_
  refine lv_imul hx hb dX12_minutesBy_9 (lv_topi (fun zi7 ea8 => ?_))
  have bd9 : (0 : Int) ≤ zi7.toInt ∧ zi7.toInt ≤ 2 := b_imul ea8 bc_2 bd6 (by decide) (by decide) (by decide) (by decide) (by decide)
  have qe10 : zi7.toInt = (2 : Int32).toInt * (zi5 : Int32).toInt := e_imul (b := 2) (d := 1) ea8 (b_wid2 bc_2 (by decide) (by decide)) (b_wid2 bd6 (by decide) (by decide)) (by decide)
  have qe11 : zi7.toInt = 2 * zi5.toInt := by have ha : (2 : Int32).toInt = 2 := (by decide); rw [ha] at qe10; exact qe10
  refine lv_iload_n hx hb dX12_minutesBy_10 rfl (lv_at hl 1 rfl) ?_
  refine lv_iadd hx hb dX12_minutesBy_11 (lv_topi (fun zi12 ea13 => ?_))
  have bd14 : (0 : Int) ≤ zi12.toInt ∧ zi12.toInt ≤ 3 := b_iadd ea13 bd9 bd901 (by decide) (by decide) (by decide) (by decide)
  have qe15 : zi12.toInt = zi7.toInt + zi901.toInt := e_iadd ea13 bd9 bd901 (by decide) (by decide)
  obtain ⟨zi17, eq16, bd18⟩ := rd_81000 ok0 kd3 ((zi12 : Int32).toNatClampNeg)
  refine p_iald (v := zi17) hx hb hK hw hW kd3 (by decide) rfl (hW.len kd3 (n := 4) rfl (by decide)) (vp_b bd14 (by decide) (by decide)) eq16 dX12_minutesBy_12 ?_
  refine lv_istore_n (lv' := [(3, .int zi17), (0, .ref qa900), (1, .int zi901), (2, .int zi902)]) hx hb dX12_minutesBy_13 rfl hl (by decide) rfl (fun ls hl => ?_)
  refine lv_aload_n hx hb dX12_minutesBy_14 rfl (lv_at hl 1 rfl) ?_
  obtain ⟨qa20, eq19, kd21⟩ := rd_13036 ok0 kd900
  refine p_get (ci := 12) (v := .ref qa20) (C := RX12) (T := TX12) (N := 69) hx hb hT iw_X12 hown hK hw hW kd900 (by decide) rfl rfl 36 (by decide) eq19 (hT _ tb_1410) (fun _ h9 => h9) dX12_minutesBy_15 ?_
  refine lv_iconst (v := 2) hx hb dX12_minutesBy_18 (by decide) ?_
  refine lv_aload_n hx hb dX12_minutesBy_19 rfl (lv_at hl 1 rfl) ?_
  refine p_get (ci := 12) (v := .int zi5) (C := RX12) (T := TX12) (N := 69) hx hb hT iw_X12 hown hK hw hW kd900 (by decide) rfl rfl 18 (by decide) eq4 (hT _ tb_1392) (fun _ h9 => h9) dX12_minutesBy_20 ?_
  refine lv_imul hx hb dX12_minutesBy_23 (lv_topi (fun zi22 ea23 => ?_))
  have bd24 : (0 : Int) ≤ zi22.toInt ∧ zi22.toInt ≤ 2 := b_imul ea23 bc_2 bd6 (by decide) (by decide) (by decide) (by decide) (by decide)
  have qe25 : zi22.toInt = (2 : Int32).toInt * (zi5 : Int32).toInt := e_imul (b := 2) (d := 1) ea23 (b_wid2 bc_2 (by decide) (by decide)) (b_wid2 bd6 (by decide) (by decide)) (by decide)
  have qe26 : zi22.toInt = 2 * zi5.toInt := by have ha : (2 : Int32).toInt = 2 := (by decide); rw [ha] at qe25; exact qe25
  refine lv_iload_n hx hb dX12_minutesBy_24 rfl (lv_at hl 2 rfl) ?_
  refine lv_iadd hx hb dX12_minutesBy_25 (lv_topi (fun zi27 ea28 => ?_))
  have bd29 : (0 : Int) ≤ zi27.toInt ∧ zi27.toInt ≤ 3 := b_iadd ea28 bd24 bd901 (by decide) (by decide) (by decide) (by decide)
  have qe30 : zi27.toInt = zi22.toInt + zi901.toInt := e_iadd ea28 bd24 bd901 (by decide) (by decide)
  obtain ⟨zi32, eq31, bd33⟩ := rd_82000 ok0 kd21 ((zi27 : Int32).toNatClampNeg)
  refine p_iald (v := zi32) hx hb hK hw hW kd21 (by decide) rfl (hW.len kd21 (n := 4) rfl (by decide)) (vp_b bd29 (by decide) (by decide)) eq31 dX12_minutesBy_26 ?_
  refine lv_istore (lv' := [(4, .int zi32), (3, .int zi17), (0, .ref qa900), (1, .int zi901), (2, .int zi902)]) hx hb dX12_minutesBy_27 hl (by decide) rfl (fun ls hl => ?_)
  refine lv_iload_n hx hb dX12_minutesBy_29 rfl (lv_at hl 1 rfl) ?_
  refine lv_iload hx hb dX12_minutesBy_30 (lv_at hl 0 rfl) ?_
  refine lv_icmp_ne (tgt := 37) hx hb dX12_minutesBy_32 (by decide) (fun cn34 => ?_) (fun cn34 => ?_)
  · skip
    have tf35 : (zi17 : Int32).toInt ≠ (zi32 : Int32).toInt := fun e => cn34 (Int32.toInt_inj.mp e)
    refine lv_aload_n hx hb dX12_minutesBy_37 rfl (lv_at hl 2 rfl) ?_
    obtain ⟨qa37, eq36, kd38⟩ := rd_13050 ok0 kd900
    refine p_get (ci := 12) (v := .ref qa37) (C := RX12) (T := TX12) (N := 69) hx hb hT iw_X12 hown hK hw hW kd900 (by decide) rfl rfl 50 (by decide) eq36 (hT _ tb_1424) (fun _ h9 => h9) dX12_minutesBy_38 ?_
    refine lv_iconst (v := 0) hx hb dX12_minutesBy_41 (by decide) ?_
    obtain ⟨zi40, eq39⟩ := rd_93000 ok0 kd38 ((0 : Int32).toNatClampNeg)
    refine p_iald (v := zi40) hx hb hK hw hW kd38 (by decide) rfl (hW.len kd38 (n := 40) rfl (by decide)) (vp_b bc_0 (by decide) (by decide)) eq39 dX12_minutesBy_42 ?_
    refine lv_sipush (v := 1440) hx hb dX12_minutesBy_43 (by decide) ?_
    refine lv_irem hx hb dX12_minutesBy_46 (ne_z bc_1440 (by decide)) (lv_topi (fun zi41 ea42 => ?_))
    refine lv_istore (lv' := [(5, .int zi41), (4, .int zi32), (3, .int zi17), (0, .ref qa900), (1, .int zi901), (2, .int zi902)]) hx hb dX12_minutesBy_47 hl (by decide) rfl (fun ls hl => ?_)
    refine lv_aload_n hx hb dX12_minutesBy_49 rfl (lv_at hl 3 rfl) ?_
    obtain ⟨qa44, eq43, kd45⟩ := rd_13046 ok0 kd900
    refine p_get (ci := 12) (v := .ref qa44) (C := RX12) (T := TX12) (N := 69) hx hb hT iw_X12 hown hK hw hW kd900 (by decide) rfl rfl 46 (by decide) eq43 (hT _ tb_1420) (fun _ h9 => h9) dX12_minutesBy_50 ?_
    refine lv_iconst (v := 0) hx hb dX12_minutesBy_53 (by decide) ?_
    refine lv_aload_n hx hb dX12_minutesBy_54 rfl (lv_at hl 3 rfl) ?_
    refine p_get (ci := 12) (v := .ref qa37) (C := RX12) (T := TX12) (N := 69) hx hb hT iw_X12 hown hK hw hW kd900 (by decide) rfl rfl 50 (by decide) eq36 (hT _ tb_1424) (fun _ h9 => h9) dX12_minutesBy_55 ?_
    refine lv_iconst (v := 2) hx hb dX12_minutesBy_58 (by decide) ?_
    obtain ⟨zi47, eq46⟩ := rd_93000 ok0 kd38 ((2 : Int32).toNatClampNeg)
    refine p_iald (v := zi47) hx hb hK hw hW kd38 (by decide) rfl (hW.len kd38 (n := 40) rfl (by decide)) (vp_b bc_2 (by decide) (by decide)) eq46 dX12_minutesBy_59 ?_
    refine lv_aload_n hx hb dX12_minutesBy_60 rfl (lv_at hl 3 rfl) ?_
    refine lv_iload_n hx hb dX12_minutesBy_61 rfl (lv_at hl 5 rfl) ?_
    refine kq_i hw hS hA (va_runV (As := [.int zi902]) (rest := [.int zi47, .int 0, .ref qa44]) ⟨hx, hb, hml, hown, hT⟩ (cX12_wordsOf_0 l G cy ev K ln Ls hW _ hp0 ok0 qa900 zi902 kd900) (cwV 1 hT (good_V tb_1773 tb_1770 tb_1772 tb_82 tb_122) rfl rfl rfl (by decide +kernel) ⟨Nat.le_of_ble_eq_true rfl, Nat.le_of_ble_eq_true rfl⟩) (pool_preV (ci := 12) hK hE hS hA hw hW kd900 (by decide) rfl) rfl rfl hl.1 rfl (lv_room (Nat.le_of_ble_eq_true rfl)) dX12_minutesBy_62 ⟨Nat.le_of_ble_eq_true rfl, Nat.le_of_ble_eq_true rfl⟩) (fun zi52 hp48 H locs hq51 hw hS => ?_)
    obtain ⟨ok49, F50⟩ := hq51
    obtain rfl : hp0 = hp48 := (Fr.nil F50).symm
    have hw : PW G cy K ln Ls A hp0 H := hw
    refine lv_iand hx hb dX12_minutesBy_65 (lv_topi (fun zi53 ea54 => ?_))
    refine kq_i hw hS hA (va_runS (As := [.int zi53]) (rest := [.int 0, .ref qa44]) ⟨hx, hb, hml, hown, hT⟩ (cX12_bits_0 l G cy ev K ln Ls hW _ hp0 ok0 zi53) (va_cwS 1 hT (good_S tb_1776 tb_1774 tb_1775 tb_122) rfl rfl rfl (by decide +kernel) ⟨Nat.le_of_ble_eq_true rfl, Nat.le_of_ble_eq_true rfl⟩) (PB2.preS hK hE hS hA hw) rfl rfl hl.1 rfl (lv_room (Nat.le_of_ble_eq_true rfl)) dX12_minutesBy_66 ⟨Nat.le_of_ble_eq_true rfl, Nat.le_of_ble_eq_true rfl⟩) (fun zi59 hp55 H locs hq58 hw hS => ?_)
    obtain ⟨ok56, F57, bd60, ef61, xq62⟩ := hq58
    obtain rfl : hp0 = hp55 := (Fr.nil F57).symm
    have hw : PW G cy K ln Ls A hp0 H := hw
    refine p_iast (x := zi59) hx hb hK hw hS hW kd45 (by decide) rfl (hW.len kd45 (n := 5) rfl (by decide)) (vp_b bc_0 (by decide) (by decide)) dX12_minutesBy_69 (fun hp63 eh64 H locs hw hS => ?_)
    have ok65 := wr_90000 ok0 kd45 eh64
    refine lv_aload_n hx hb dX12_minutesBy_70 rfl (lv_at hl 3 rfl) ?_
    have eq66 : hp63 qa900 46 = .ref qa44 := Eq.trans (up_at eh64 (Or.inl (kd_ne kd900 kd45 (by decide)))) eq43
    refine p_get (ci := 12) (v := .ref qa44) (C := RX12) (T := TX12) (N := 69) hx hb hT iw_X12 hown hK hw hW kd900 (by decide) rfl rfl 46 (by decide) eq66 (hT _ tb_1420) (fun _ h9 => h9) dX12_minutesBy_71 ?_
    refine lv_iconst (v := 1) hx hb dX12_minutesBy_74 (by decide) ?_
    refine lv_aload_n hx hb dX12_minutesBy_75 rfl (lv_at hl 3 rfl) ?_
    have eq67 : hp63 qa900 50 = .ref qa37 := Eq.trans (up_at eh64 (Or.inl (kd_ne kd900 kd45 (by decide)))) eq36
    refine p_get (ci := 12) (v := .ref qa37) (C := RX12) (T := TX12) (N := 69) hx hb hT iw_X12 hown hK hw hW kd900 (by decide) rfl rfl 50 (by decide) eq67 (hT _ tb_1424) (fun _ h9 => h9) dX12_minutesBy_76 ?_
    refine lv_iconst (v := 1) hx hb dX12_minutesBy_79 (by decide) ?_
    obtain ⟨zi69, eq68⟩ := rd_93000 ok65 kd38 ((1 : Int32).toNatClampNeg)
    refine p_iald (v := zi69) hx hb hK hw hW kd38 (by decide) rfl (hW.len kd38 (n := 40) rfl (by decide)) (vp_b bc_1 (by decide) (by decide)) eq68 dX12_minutesBy_80 ?_
    refine lv_aload_n hx hb dX12_minutesBy_81 rfl (lv_at hl 3 rfl) ?_
    refine lv_iload_n hx hb dX12_minutesBy_82 rfl (lv_at hl 5 rfl) ?_
    refine kq_i hw hS hA (va_runV (As := [.int zi902]) (rest := [.int zi69, .int 1, .ref qa44]) ⟨hx, hb, hml, hown, hT⟩ (cX12_wordsOf_0 l G cy ev K ln Ls hW _ hp63 ok65 qa900 zi902 kd900) (cwV 1 hT (good_V tb_1773 tb_1770 tb_1772 tb_82 tb_122) rfl rfl rfl (by decide +kernel) ⟨Nat.le_of_ble_eq_true rfl, Nat.le_of_ble_eq_true rfl⟩) (pool_preV (ci := 12) hK hE hS hA hw hW kd900 (by decide) rfl) rfl rfl hl.1 rfl (lv_room (Nat.le_of_ble_eq_true rfl)) dX12_minutesBy_83 ⟨Nat.le_of_ble_eq_true rfl, Nat.le_of_ble_eq_true rfl⟩) (fun zi74 hp70 H locs hq73 hw hS => ?_)
    obtain ⟨ok71, F72⟩ := hq73
    obtain rfl : hp63 = hp70 := (Fr.nil F72).symm
    have hw : PW G cy K ln Ls A hp63 H := hw
    refine lv_iand hx hb dX12_minutesBy_86 (lv_topi (fun zi75 ea76 => ?_))
    refine kq_i hw hS hA (va_runS (As := [.int zi75]) (rest := [.int 1, .ref qa44]) ⟨hx, hb, hml, hown, hT⟩ (cX12_bits_0 l G cy ev K ln Ls hW _ hp63 ok65 zi75) (va_cwS 1 hT (good_S tb_1776 tb_1774 tb_1775 tb_122) rfl rfl rfl (by decide +kernel) ⟨Nat.le_of_ble_eq_true rfl, Nat.le_of_ble_eq_true rfl⟩) (PB2.preS hK hE hS hA hw) rfl rfl hl.1 rfl (lv_room (Nat.le_of_ble_eq_true rfl)) dX12_minutesBy_87 ⟨Nat.le_of_ble_eq_true rfl, Nat.le_of_ble_eq_true rfl⟩) (fun zi81 hp77 H locs hq80 hw hS => ?_)
    obtain ⟨ok78, F79, bd82, ef83, xq84⟩ := hq80
    obtain rfl : hp63 = hp77 := (Fr.nil F79).symm
    have hw : PW G cy K ln Ls A hp63 H := hw
    refine p_iast (x := zi81) hx hb hK hw hS hW kd45 (by decide) rfl (hW.len kd45 (n := 5) rfl (by decide)) (vp_b bc_1 (by decide) (by decide)) dX12_minutesBy_90 (fun hp85 eh86 H locs hw hS => ?_)
    have ok87 := wr_90000 ok65 kd45 eh86
    refine lv_aload_n hx hb dX12_minutesBy_91 rfl (lv_at hl 3 rfl) ?_
    have eq88 : hp85 qa900 46 = .ref qa44 := Eq.trans (up_at eh86 (Or.inl (kd_ne kd900 kd45 (by decide)))) eq66
    refine p_get (ci := 12) (v := .ref qa44) (C := RX12) (T := TX12) (N := 69) hx hb hT iw_X12 hown hK hw hW kd900 (by decide) rfl rfl 46 (by decide) eq88 (hT _ tb_1420) (fun _ h9 => h9) dX12_minutesBy_92 ?_
    refine lv_iconst (v := 2) hx hb dX12_minutesBy_95 (by decide) ?_
    refine lv_iload hx hb dX12_minutesBy_96 (lv_at hl 0 rfl) ?_
    have jn99 : ∀ (zi97 : Int32) (H : Heap) (locs : List Loc) (ls : Array Slot), ((-2147482208 : Int) ≤ zi97.toInt ∧ zi97.toInt ≤ 2147483647) → lv_has ls 7 [(0, .ref qa900), (3, .int zi17), (4, .int zi32)] → PW G cy K ln Ls A hp85 H → va_S A s.heap H locs → W p l e ({ frames := 1, cells := 0, slots := 0, locals := 27 } : Room) s m ([.ref qa900, .int zi901, .int zi902] : List Value).toArray below meth c H locs 0 0 Q (F0 m 112 ls [.int zi97, .int 2, .ref qa44]) := by
      intro zi97 H locs ls bd98 hl hw hS
      refine p_iast (x := zi97) hx hb hK hw hS hW kd45 (by decide) rfl (hW.len kd45 (n := 5) rfl (by decide)) (vp_b bc_2 (by decide) (by decide)) dX12_minutesBy_112 (fun hp100 eh101 H locs hw hS => ?_)
      have ok102 := wr_90000 ok87 kd45 eh101
      refine lv_aload_n hx hb dX12_minutesBy_113 rfl (lv_at hl 0 rfl) ?_
      have eq103 : hp100 qa900 46 = .ref qa44 := Eq.trans (up_at eh101 (Or.inl (kd_ne kd900 kd45 (by decide)))) eq88
      refine p_get (ci := 12) (v := .ref qa44) (C := RX12) (T := TX12) (N := 69) hx hb hT iw_X12 hown hK hw hW kd900 (by decide) rfl rfl 46 (by decide) eq103 (hT _ tb_1420) (fun _ h9 => h9) dX12_minutesBy_114 ?_
      refine lv_iconst (v := 3) hx hb dX12_minutesBy_117 (by decide) ?_
      refine lv_aload_n hx hb dX12_minutesBy_118 rfl (lv_at hl 0 rfl) ?_
      refine kq_i hw hS hA (va_runV (As := []) (rest := [.int 3, .ref qa44]) ⟨hx, hb, hml, hown, hT⟩ (cX12_heardAll_0 l G cy ev K ln Ls hW _ hp100 ok102 qa900 kd900) (cwV 0 hT (good_V tb_1822 tb_1819 tb_1821 tb_90 tb_122) rfl rfl rfl (by decide +kernel) ⟨Nat.le_of_ble_eq_true rfl, Nat.le_of_ble_eq_true rfl⟩) (pool_preV (ci := 12) hK hE hS hA hw hW kd900 (by decide) rfl) rfl rfl hl.1 rfl (lv_room (Nat.le_of_ble_eq_true rfl)) dX12_minutesBy_119 ⟨Nat.le_of_ble_eq_true rfl, Nat.le_of_ble_eq_true rfl⟩) (fun zi108 hp104 H locs hq107 hw hS => ?_)
      obtain ⟨ok105, F106⟩ := hq107
      obtain rfl : hp100 = hp104 := (Fr.nil F106).symm
      have hw : PW G cy K ln Ls A hp100 H := hw
      refine p_iast (x := zi108) hx hb hK hw hS hW kd45 (by decide) rfl (hW.len kd45 (n := 5) rfl (by decide)) (vp_b bc_3 (by decide) (by decide)) dX12_minutesBy_122 (fun hp109 eh110 H locs hw hS => ?_)
      have ok111 := wr_90000 ok102 kd45 eh110
      refine lv_aload_n hx hb dX12_minutesBy_123 rfl (lv_at hl 0 rfl) ?_
      have eq112 : hp109 qa900 46 = .ref qa44 := Eq.trans (up_at eh110 (Or.inl (kd_ne kd900 kd45 (by decide)))) eq103
      refine p_get (ci := 12) (v := .ref qa44) (C := RX12) (T := TX12) (N := 69) hx hb hT iw_X12 hown hK hw hW kd900 (by decide) rfl rfl 46 (by decide) eq112 (hT _ tb_1420) (fun _ h9 => h9) dX12_minutesBy_124 ?_
      refine lv_iconst (v := 4) hx hb dX12_minutesBy_127 (by decide) ?_
      refine lv_aload_n hx hb dX12_minutesBy_128 rfl (lv_at hl 0 rfl) ?_
      have eq113 : hp109 qa900 50 = .ref qa37 := Eq.trans (up_at eh110 (Or.inl (kd_ne kd900 kd45 (by decide)))) (Eq.trans (up_at eh101 (Or.inl (kd_ne kd900 kd45 (by decide)))) (Eq.trans (up_at eh86 (Or.inl (kd_ne kd900 kd45 (by decide)))) eq67))
      refine p_get (ci := 12) (v := .ref qa37) (C := RX12) (T := TX12) (N := 69) hx hb hT iw_X12 hown hK hw hW kd900 (by decide) rfl rfl 50 (by decide) eq113 (hT _ tb_1424) (fun _ h9 => h9) dX12_minutesBy_129 ?_
      refine lv_iconst (v := 3) hx hb dX12_minutesBy_132 (by decide) ?_
      obtain ⟨zi115, eq114⟩ := rd_93000 ok111 kd38 ((3 : Int32).toNatClampNeg)
      refine p_iald (v := zi115) hx hb hK hw hW kd38 (by decide) rfl (hW.len kd38 (n := 40) rfl (by decide)) (vp_b bc_3 (by decide) (by decide)) eq114 dX12_minutesBy_133 ?_
      refine kq_i hw hS hA (va_runS (As := [.int zi115]) (rest := [.int 4, .ref qa44]) ⟨hx, hb, hml, hown, hT⟩ (cX12_bits_0 l G cy ev K ln Ls hW _ hp109 ok111 zi115) (va_cwS 1 hT (good_S tb_1776 tb_1774 tb_1775 tb_122) rfl rfl rfl (by decide +kernel) ⟨Nat.le_of_ble_eq_true rfl, Nat.le_of_ble_eq_true rfl⟩) (PB2.preS hK hE hS hA hw) rfl rfl hl.1 rfl (lv_room (Nat.le_of_ble_eq_true rfl)) dX12_minutesBy_134 ⟨Nat.le_of_ble_eq_true rfl, Nat.le_of_ble_eq_true rfl⟩) (fun zi120 hp116 H locs hq119 hw hS => ?_)
      obtain ⟨ok117, F118, bd121, ef122, xq123⟩ := hq119
      obtain rfl : hp109 = hp116 := (Fr.nil F118).symm
      have hw : PW G cy K ln Ls A hp109 H := hw
      refine p_iast (x := zi120) hx hb hK hw hS hW kd45 (by decide) rfl (hW.len kd45 (n := 5) rfl (by decide)) (vp_b bc_4 (by decide) (by decide)) dX12_minutesBy_137 (fun hp124 eh125 H locs hw hS => ?_)
      have ok126 := wr_90000 ok111 kd45 eh125
      refine lv_aload_n hx hb dX12_minutesBy_138 rfl (lv_at hl 0 rfl) ?_
      refine lv_iconst (v := 0) hx hb dX12_minutesBy_139 (by decide) ?_
      refine p_put (ci := 12) (v := .int 0) (ty := .boolean) (C := RX12) (T := TX12) (N := 69) hx hb hT iw_X12 tyX12 tyX12_ok nmX12 hown hK hw hS hW kd900 (by decide) rfl rfl 48 (by decide) (hT _ tb_1422) (fun _ h9 => h9) rfl (by decide +kernel) (nz_n bc_0 (by decide) (by decide)) (nz_f bc_0 (by decide) (by decide)) dX12_minutesBy_140 (fun hp127 eh128 H locs hw hS => ?_)
      have ok129 := wr_13048 bc_0 (by decide) (by decide) ok126 kd900 eh128
      refine lv_aload_n hx hb dX12_minutesBy_143 rfl (lv_at hl 0 rfl) ?_
      refine lv_iload_n hx hb dX12_minutesBy_144 rfl (lv_at hl 1 rfl) ?_
      refine lv_iload hx hb dX12_minutesBy_145 (lv_at hl 2 rfl) ?_
      have eq130 : hp127 qa900 18 = .int zi5 := Eq.trans (up_at eh128 (Or.inr (by decide))) (Eq.trans (up_at eh125 (Or.inl (kd_ne kd900 kd45 (by decide)))) (Eq.trans (up_at eh110 (Or.inl (kd_ne kd900 kd45 (by decide)))) (Eq.trans (up_at eh101 (Or.inl (kd_ne kd900 kd45 (by decide)))) (Eq.trans (up_at eh86 (Or.inl (kd_ne kd900 kd45 (by decide)))) (Eq.trans (up_at eh64 (Or.inl (kd_ne kd900 kd45 (by decide)))) eq4)))))
      have eq131 : hp127 qa900 35 = .ref qa2 := Eq.trans (up_at eh128 (Or.inr (by decide))) (Eq.trans (up_at eh125 (Or.inl (kd_ne kd900 kd45 (by decide)))) (Eq.trans (up_at eh110 (Or.inl (kd_ne kd900 kd45 (by decide)))) (Eq.trans (up_at eh101 (Or.inl (kd_ne kd900 kd45 (by decide)))) (Eq.trans (up_at eh86 (Or.inl (kd_ne kd900 kd45 (by decide)))) (Eq.trans (up_at eh64 (Or.inl (kd_ne kd900 kd45 (by decide)))) eq1)))))
      have eq132 : hp127 qa900 36 = .ref qa20 := Eq.trans (up_at eh128 (Or.inr (by decide))) (Eq.trans (up_at eh125 (Or.inl (kd_ne kd900 kd45 (by decide)))) (Eq.trans (up_at eh110 (Or.inl (kd_ne kd900 kd45 (by decide)))) (Eq.trans (up_at eh101 (Or.inl (kd_ne kd900 kd45 (by decide)))) (Eq.trans (up_at eh86 (Or.inl (kd_ne kd900 kd45 (by decide)))) (Eq.trans (up_at eh64 (Or.inl (kd_ne kd900 kd45 (by decide)))) eq19)))))
      have eq133 : hp127 qa2 (zi12 : Int32).toNatClampNeg = .int zi17 := Eq.trans (up_at eh128 (Or.inl (kd_ne kd3 kd900 (by decide)))) (Eq.trans (up_at eh125 (Or.inl (kd_ne kd3 kd45 (by decide)))) (Eq.trans (up_at eh110 (Or.inl (kd_ne kd3 kd45 (by decide)))) (Eq.trans (up_at eh101 (Or.inl (kd_ne kd3 kd45 (by decide)))) (Eq.trans (up_at eh86 (Or.inl (kd_ne kd3 kd45 (by decide)))) (Eq.trans (up_at eh64 (Or.inl (kd_ne kd3 kd45 (by decide)))) eq16)))))
      have eq134 : hp127 qa20 (zi27 : Int32).toNatClampNeg = .int zi32 := Eq.trans (up_at eh128 (Or.inl (kd_ne kd21 kd900 (by decide)))) (Eq.trans (up_at eh125 (Or.inl (kd_ne kd21 kd45 (by decide)))) (Eq.trans (up_at eh110 (Or.inl (kd_ne kd21 kd45 (by decide)))) (Eq.trans (up_at eh101 (Or.inl (kd_ne kd21 kd45 (by decide)))) (Eq.trans (up_at eh86 (Or.inl (kd_ne kd21 kd45 (by decide)))) (Eq.trans (up_at eh64 (Or.inl (kd_ne kd21 kd45 (by decide)))) eq31)))))
      have pd135 : LW hp127 qa900 := LW_fr ok0 kd900 (show Fr [13048, 90000] K hp0 hp127 from (Fr.put (cq := 13048) (Fr.put (cq := 90000) (Fr.put (cq := 90000) (Fr.put (cq := 90000) (Fr.put (cq := 90000) (Fr.put (cq := 90000) (Fr.rf) eh64 kd45 (cd_a (by decide)) (by decide)) eh86 kd45 (cd_a (by decide)) (by decide)) eh101 kd45 (cd_a (by decide)) (by decide)) eh110 kd45 (cd_a (by decide)) (by decide)) eh125 kd45 (cd_a (by decide)) (by decide)) eh128 kd900 (cd_o (by decide)) (by decide))) (by decide) pdLW
      have hx136 : zi27 = zi12 := Int32.toInt_inj.mp (by omega)
      have eq137 : hp127 qa20 (zi12 : Int32).toNatClampNeg = .int zi32 := by rw [← hx136]; exact eq134
      refine kq_i hw hS hA (va_runV (As := [.int zi17, .int zi32]) (rest := []) ⟨hx, hb, hml, hown, hT⟩ (cX12_termOf_0 l G cy ev K ln Ls hW _ hp127 ok129 qa900 zi17 zi32 kd900 (b_wid2 bd18 (by decide) (by decide)) (b_wid2 bd33 (by decide) (by decide)) (lw_use pd135 eq130 bd6 bd901 (by omega) eq131 eq132 eq133 eq137 cn34)) (cwV 2 hT (good_V tb_1826 tb_1823 tb_1825 tb_91 tb_122) rfl rfl rfl (by decide +kernel) ⟨Nat.le_of_ble_eq_true rfl, Nat.le_of_ble_eq_true rfl⟩) (pool_preV (ci := 12) hK hE hS hA hw hW kd900 (by decide) rfl) rfl rfl hl.1 rfl (lv_room (Nat.le_of_ble_eq_true rfl)) dX12_minutesBy_147 ⟨Nat.le_of_ble_eq_true rfl, Nat.le_of_ble_eq_true rfl⟩) (fun zi142 hp138 H locs hq141 hw hS => ?_)
      obtain ⟨ok139, F140⟩ := hq141
      have hw : PW G cy K ln Ls A hp138 H := hw
      refine lv_istore (lv' := [(6, .int zi142), (0, .ref qa900), (3, .int zi17), (4, .int zi32)]) hx hb dX12_minutesBy_150 hl (by decide) rfl (fun ls hl => ?_)
      refine lv_aload_n hx hb dX12_minutesBy_152 rfl (lv_at hl 1 rfl) ?_
      obtain ⟨zi144, eq143, bd145⟩ := rd_13048 ok139 kd900
      refine p_get (ci := 12) (v := .int zi144) (C := RX12) (T := TX12) (N := 69) hx hb hT iw_X12 hown hK hw hW kd900 (by decide) rfl rfl 48 (by decide) eq143 (hT _ tb_1422) (fun _ h9 => h9) dX12_minutesBy_153 ?_
      refine lv_if_ne (tgt := 164) hx hb dX12_minutesBy_156 (by decide) (fun cn146 => ?_) (fun cn146 => ?_)
      · skip
        have tf147 : (zi144 : Int32).toInt ≠ (0 : Int32).toInt := fun e => cn146 (Int32.toInt_inj.mp e)
        have := toi bc_0
        have bd148 : (1 : Int) ≤ zi144.toInt ∧ zi144.toInt ≤ 1 := r_ne_lo cn146 bd145 (toi bc_0) (by decide) (by decide)
        refine lv_iconst (v := 0) hx hb dX12_minutesBy_164 (by decide) ?_
        refine lv_goto (tgt := 182) hx hb dX12_minutesBy_165 (by decide) ?_
        rw [hQ]
        exact kz_i hx hb hr hlocks hS rfl hp138 hw ⟨ok139, (Fr.tr (Fr.put (cq := 13048) (Fr.put (cq := 90000) (Fr.put (cq := 90000) (Fr.put (cq := 90000) (Fr.put (cq := 90000) (Fr.put (cq := 90000) (Fr.rf) eh64 kd45 (cd_a (by decide)) (by decide)) eh86 kd45 (cd_a (by decide)) (by decide)) eh101 kd45 (cd_a (by decide)) (by decide)) eh110 kd45 (cd_a (by decide)) (by decide)) eh125 kd45 (cd_a (by decide)) (by decide)) eh128 kd900 (cd_o (by decide)) (by decide)) F140 (by decide)), (b_wid2 bc_0 (by decide) (by decide))⟩ (Nat.le_of_ble_eq_true rfl) (Nat.le_of_ble_eq_true rfl) dX12_minutesBy_182
      · skip
        have bd149 : (0 : Int) ≤ zi144.toInt ∧ zi144.toInt ≤ 0 := r_eq_x cn146 bd145 bc_0 (by decide) (by decide)
        refine lv_iload hx hb dX12_minutesBy_159 (lv_at hl 0 rfl) ?_
        refine lv_if_ge (tgt := 168) hx hb dX12_minutesBy_161 (by decide) (fun cn150 => ?_) (fun cn150 => ?_)
        · skip
          have bd151 : (0 : Int) ≤ zi142.toInt ∧ zi142.toInt ≤ 2147483647 := r_le_y cn150 bc_0 (b_all zi142) (by decide) (by decide)
          refine lv_iload hx hb dX12_minutesBy_168 (lv_at hl 0 rfl) ?_
          refine lv_bipush (v := 120) hx hb dX12_minutesBy_170 (by decide) ?_
          refine lv_icmp_le (tgt := 180) hx hb dX12_minutesBy_172 (by decide) (fun cn152 => ?_) (fun cn152 => ?_)
          · skip
            have bd153 : (0 : Int) ≤ zi142.toInt ∧ zi142.toInt ≤ 120 := r_le_x cn152 bd151 bc_120 (by decide) (by decide)
            refine lv_iload hx hb dX12_minutesBy_180 (lv_at hl 0 rfl) ?_
            rw [hQ]
            exact kz_i hx hb hr hlocks hS rfl hp138 hw ⟨ok139, (Fr.tr (Fr.put (cq := 13048) (Fr.put (cq := 90000) (Fr.put (cq := 90000) (Fr.put (cq := 90000) (Fr.put (cq := 90000) (Fr.put (cq := 90000) (Fr.rf) eh64 kd45 (cd_a (by decide)) (by decide)) eh86 kd45 (cd_a (by decide)) (by decide)) eh101 kd45 (cd_a (by decide)) (by decide)) eh110 kd45 (cd_a (by decide)) (by decide)) eh125 kd45 (cd_a (by decide)) (by decide)) eh128 kd900 (cd_o (by decide)) (by decide)) F140 (by decide)), (b_wid2 bd153 (by decide) (by decide))⟩ (Nat.le_of_ble_eq_true rfl) (Nat.le_of_ble_eq_true rfl) dX12_minutesBy_182
          · skip
            have bd154 : (121 : Int) ≤ zi142.toInt ∧ zi142.toInt ≤ 2147483647 := r_lt_y (Int32.not_le.mp cn152) bc_120 bd151 (by decide) (by decide)
            refine lv_bipush (v := 120) hx hb dX12_minutesBy_175 (by decide) ?_
            refine lv_goto (tgt := 182) hx hb dX12_minutesBy_177 (by decide) ?_
            rw [hQ]
            exact kz_i hx hb hr hlocks hS rfl hp138 hw ⟨ok139, (Fr.tr (Fr.put (cq := 13048) (Fr.put (cq := 90000) (Fr.put (cq := 90000) (Fr.put (cq := 90000) (Fr.put (cq := 90000) (Fr.put (cq := 90000) (Fr.rf) eh64 kd45 (cd_a (by decide)) (by decide)) eh86 kd45 (cd_a (by decide)) (by decide)) eh101 kd45 (cd_a (by decide)) (by decide)) eh110 kd45 (cd_a (by decide)) (by decide)) eh125 kd45 (cd_a (by decide)) (by decide)) eh128 kd900 (cd_o (by decide)) (by decide)) F140 (by decide)), (b_wid2 bc_120 (by decide) (by decide))⟩ (Nat.le_of_ble_eq_true rfl) (Nat.le_of_ble_eq_true rfl) dX12_minutesBy_182
        · skip
          have bd155 : (-2147483648 : Int) ≤ zi142.toInt ∧ zi142.toInt ≤ -1 := r_lt_x (Int32.not_le.mp cn150) (b_all zi142) bc_0 (by decide) (by decide)
          refine lv_iconst (v := 0) hx hb dX12_minutesBy_164 (by decide) ?_
          refine lv_goto (tgt := 182) hx hb dX12_minutesBy_165 (by decide) ?_
          rw [hQ]
          exact kz_i hx hb hr hlocks hS rfl hp138 hw ⟨ok139, (Fr.tr (Fr.put (cq := 13048) (Fr.put (cq := 90000) (Fr.put (cq := 90000) (Fr.put (cq := 90000) (Fr.put (cq := 90000) (Fr.put (cq := 90000) (Fr.rf) eh64 kd45 (cd_a (by decide)) (by decide)) eh86 kd45 (cd_a (by decide)) (by decide)) eh101 kd45 (cd_a (by decide)) (by decide)) eh110 kd45 (cd_a (by decide)) (by decide)) eh125 kd45 (cd_a (by decide)) (by decide)) eh128 kd900 (cd_o (by decide)) (by decide)) F140 (by decide)), (b_wid2 bc_0 (by decide) (by decide))⟩ (Nat.le_of_ble_eq_true rfl) (Nat.le_of_ble_eq_true rfl) dX12_minutesBy_182
    refine lv_if_ge (tgt := 110) hx hb dX12_minutesBy_98 (by decide) (fun cn89 => ?_) (fun cn89 => ?_)
    · skip
      have bd156 : (0 : Int) ≤ zi41.toInt ∧ zi41.toInt ≤ 2147483647 := r_le_y cn89 bc_0 (b_all zi41) (by decide) (by decide)
      refine lv_iload hx hb dX12_minutesBy_110 (lv_at hl 0 rfl) ?_
      exact jn99 zi41 _ _ ls (b_wid2 bd156 (by decide) (by decide)) (lv_sub hl [3, 2, 1] rfl) hw hS
    · skip
      have bd157 : (-2147483648 : Int) ≤ zi41.toInt ∧ zi41.toInt ≤ -1 := r_lt_x (Int32.not_le.mp cn89) (b_all zi41) bc_0 (by decide) (by decide)
      refine lv_iload hx hb dX12_minutesBy_101 (lv_at hl 0 rfl) ?_
      refine lv_sipush (v := 1440) hx hb dX12_minutesBy_103 (by decide) ?_
      refine lv_iadd hx hb dX12_minutesBy_106 (lv_topi (fun zi158 ea159 => ?_))
      have bd160 : (-2147482208 : Int) ≤ zi158.toInt ∧ zi158.toInt ≤ 1439 := b_iadd ea159 bd157 bc_1440 (by decide) (by decide) (by decide) (by decide)
      have qe161 : zi158.toInt = (zi41 : Int32).toInt + (1440 : Int32).toInt := e_iadd ea159 bd157 bc_1440 (by decide) (by decide)
      have qe162 : zi158.toInt = zi41.toInt + 1440 := by have ha : (1440 : Int32).toInt = 1440 := (by decide); rw [ha] at qe161; exact qe161
      refine lv_goto (tgt := 112) hx hb dX12_minutesBy_107 (by decide) ?_
      exact jn99 zi158 _ _ ls (b_wid2 bd160 (by decide) (by decide)) (lv_sub hl [3, 2, 1] rfl) hw hS
  · skip
    have tf163 : zi17.toInt = zi32.toInt := congrArg Int32.toInt cn34
    refine lv_iconst (v := 1) hx hb dX12_minutesBy_35 (by decide) ?_
    rw [hQ]
    exact kz_i hx hb hr hlocks hS rfl hp0 hw ⟨ok0, (Fr.rf), (b_wid2 bc_1 (by decide) (by decide))⟩ (Nat.le_of_ble_eq_true rfl) (Nat.le_of_ble_eq_true rfl) dX12_minutesBy_36

set_option maxRecDepth 100000 in
set_option maxHeartbeats 4000000 in
theorem cX12_stand_0 (l : Launch) (G : va_G) (cy : Nat → ClassId) (ev : Ew) (K ln : Nat → Nat) (Ls : List Nat) (hW : SW K ln Ls) (sz : Nat) (hp0 : Nat → Nat → Value) (ok0 : Ok K hp0) (qa900 : Nat) (zi901 : Int32) (kd900 : K qa900 = 13) (bd901 : ((-1 : Int) ≤ zi901.toInt ∧ zi901.toInt ≤ 7)) : Met l yX12_stand (WS yX12_stand cX12_stand 5 (some .boolean)) { frames := 1, cells := 0, slots := 0, locals := 24 } (PB2 [.ref qa900, .int zi901] sz G cy ev (va_pl Ls (cellOf cy K ln hp0))) (QBi (S := (Nat → Nat → Value)) (fun (r : Int32) (u : (Nat → Nat → Value)) => Ok K u ∧ Fr [] K hp0 u ∧ ((0 : Int) ≤ r.toInt ∧ r.toInt ≤ 1)) G (fun u => va_pl Ls (cellOf cy K ln u)) (va_A (va_pl Ls (cellOf cy K ln hp0)) sz)) 0 0 (va_A (va_pl Ls (cellOf cy K ln hp0)) sz) := by
  refine met_of2 (y := yX12_stand) (L := 5) (av := [.ref qa900, .int zi901]) (Qc := fun A => QBi (S := (Nat → Nat → Value)) (fun (r : Int32) (u : (Nat → Nat → Value)) => Ok K u ∧ Fr [] K hp0 u ∧ ((0 : Int) ≤ r.toInt ∧ r.toInt ≤ 1)) G (fun u => va_pl Ls (cellOf cy K ln u)) A) (plainFor_of_name (by decide)) (Nat.le_of_ble_eq_true rfl) ?_
  intro p e s m below meth c hsz hx hb hr hml hown hT hlocks hin hK A hA hE hw hS ls hl
  have hw : PW G cy K ln Ls A hp0 s.heap := hw
  have hown : s.vm.findClass "LieClockModel" = some m.cls := hown
  have hl : lv_has ls 5 [(0, .ref qa900), (1, .int zi901)] := hl
  obtain ⟨Q, hQ⟩ : ∃ Q : State → Prop, Q = MQ below (QBi (S := (Nat → Nat → Value)) (fun (r : Int32) (u : (Nat → Nat → Value)) => Ok K u ∧ Fr [] K hp0 u ∧ ((0 : Int) ≤ r.toInt ∧ r.toInt ≤ 1)) G (fun u => va_pl Ls (cellOf cy K ln u)) A) ([.ref qa900, .int zi901] : List Value).toArray s 0 0 A := ⟨_, rfl⟩
  rw [← hQ]
  refine lv_aload_n hx hb dX12_stand_0 rfl (lv_at hl 0 rfl) ?_
  refine lv_aload_n hx hb dX12_stand_1 rfl (lv_at hl 0 rfl) ?_
  obtain ⟨qa2, eq1, kd3⟩ := rd_13050 ok0 kd900
  refine p_get (ci := 12) (v := .ref qa2) (C := RX12) (T := TX12) (N := 69) hx hb hT iw_X12 hown hK hw hW kd900 (by decide) rfl rfl 50 (by decide) eq1 (hT _ tb_1424) (fun _ h9 => h9) dX12_stand_2 ?_
  refine lv_iconst (v := 3) hx hb dX12_stand_5 (by decide) ?_
  obtain ⟨zi5, eq4⟩ := rd_93000 ok0 kd3 ((3 : Int32).toNatClampNeg)
  refine p_iald (v := zi5) hx hb hK hw hW kd3 (by decide) rfl (hW.len kd3 (n := 40) rfl (by decide)) (vp_b bc_3 (by decide) (by decide)) eq4 dX12_stand_6 ?_
  refine kq_l hw hS hA (va_runV (As := [.int zi5]) (rest := []) ⟨hx, hb, hml, hown, hT⟩ (cX12_mayBe_0 l G cy ev K ln Ls hW _ hp0 ok0 qa900 zi5 kd900) (cwV 1 hT (good_V tb_1784 tb_1781 tb_1783 tb_84 tb_122) rfl rfl rfl (by decide +kernel) ⟨Nat.le_of_ble_eq_true rfl, Nat.le_of_ble_eq_true rfl⟩) (pool_preV (ci := 12) hK hE hS hA hw hW kd900 (by decide) rfl) rfl rfl hl.1 rfl (lv_room (Nat.le_of_ble_eq_true rfl)) dX12_stand_7 ⟨Nat.le_of_ble_eq_true rfl, Nat.le_of_ble_eq_true rfl⟩) (fun wl10 hp6 H locs hq9 hw hS => ?_)
  obtain ⟨ok7, F8⟩ := hq9
  obtain rfl : hp0 = hp6 := (Fr.nil F8).symm
  have hw : PW G cy K ln Ls A hp0 H := hw
  refine lv_lstore_n (lv' := [(2, .long wl10), (0, .ref qa900), (1, .int zi901)]) hx hb dX12_stand_10 rfl hl (by decide) rfl (fun ls hl => ?_)
  refine lv_iconst (v := 0) hx hb dX12_stand_11 (by decide) ?_
  refine lv_istore (lv' := [(4, .int 0), (2, .long wl10), (0, .ref qa900), (1, .int zi901)]) hx hb dX12_stand_12 hl (by decide) rfl (fun ls hl => ?_)
  have lp419 : ∀ (n417 : Nat) (wl300 : Int64) (zi301 : Int32) (H : Heap) (locs : List Loc) (ls : Array Slot), 16 - zi301.toInt < (n417 : Int) → ((0 : Int) ≤ zi301.toInt ∧ zi301.toInt ≤ 16) → lv_has ls 5 [(0, .ref qa900), (1, .int zi901), (2, .long wl300), (4, .int zi301)] → PW G cy K ln Ls A hp0 H → va_S A s.heap H locs → W p l e ({ frames := 1, cells := 0, slots := 0, locals := 24 } : Room) s m ([.ref qa900, .int zi901] : List Value).toArray below meth c H locs 0 0 Q (F0 m 14 ls []) := by
    intro n417
    induction n417 with
    | zero =>
      intro wl300 zi301 H locs ls hm420 bd302 hl hw hS
      exact absurd hm420 (by have := bd302; omega)
    | succ n417 ih418 =>
      intro wl300 zi301 H locs ls hm420 bd302 hl hw hS
      refine lv_iload hx hb dX12_stand_14 (lv_at hl 3 rfl) ?_
      refine lv_aload_n hx hb dX12_stand_16 rfl (lv_at hl 0 rfl) ?_
      obtain ⟨qa422, eq421, kd423⟩ := rd_13028 ok0 kd900
      refine p_get (ci := 12) (v := .ref qa422) (C := RX12) (T := TX12) (N := 69) hx hb hT iw_X12 hown hK hw hW kd900 (by decide) rfl rfl 28 (by decide) eq421 (hT _ tb_1402) (fun _ h9 => h9) dX12_stand_17 ?_
      refine lv_aload_n hx hb dX12_stand_20 rfl (lv_at hl 0 rfl) ?_
      obtain ⟨zi425, eq424, bd426⟩ := rd_13018 ok0 kd900
      refine p_get (ci := 12) (v := .int zi425) (C := RX12) (T := TX12) (N := 69) hx hb hT iw_X12 hown hK hw hW kd900 (by decide) rfl rfl 18 (by decide) eq424 (hT _ tb_1392) (fun _ h9 => h9) dX12_stand_21 ?_
      obtain ⟨zi428, eq427, bd429⟩ := rd_74000 ok0 kd423 ((zi425 : Int32).toNatClampNeg)
      refine p_iald (v := zi428) hx hb hK hw hW kd423 (by decide) rfl (hW.len kd423 (n := 2) rfl (by decide)) (vp_b bd426 (by decide) (by decide)) eq427 dX12_stand_24 ?_
      refine lv_icmp_ge (tgt := 72) hx hb dX12_stand_25 (by decide) (fun cn430 => ?_) (fun cn430 => ?_)
      · skip
        refine lv_lload_n hx hb dX12_stand_72 rfl (lv_at hl 2 rfl) ?_
        refine lv_lconst (v := 0) hx hb dX12_stand_73 (by decide) ?_
        refine W.lcmp hx hb dX12_stand_74 (lv_topi (fun zi478 ea479 => ?_))
        refine lv_if_eq (tgt := 82) hx hb dX12_stand_75 (by decide) (fun cn480 => ?_) (fun cn480 => ?_)
        · skip
          have bd481 : (0 : Int) ≤ zi478.toInt ∧ zi478.toInt ≤ 0 := r_eq_x cn480 (b_all zi478) bc_0 (by decide) (by decide)
          refine lv_iconst (v := 0) hx hb dX12_stand_82 (by decide) ?_
          rw [hQ]
          exact kz_i hx hb hr hlocks hS (nz_n bc_0 (by decide) (by decide)) hp0 hw ⟨ok0, (Fr.rf), (b_wid2 bc_0 (by decide) (by decide))⟩ (Nat.le_of_ble_eq_true rfl) (Nat.le_of_ble_eq_true rfl) dX12_stand_83
        · skip
          refine lv_iconst (v := 1) hx hb dX12_stand_78 (by decide) ?_
          refine lv_goto (tgt := 83) hx hb dX12_stand_79 (by decide) ?_
          rw [hQ]
          exact kz_i hx hb hr hlocks hS (nz_n bc_1 (by decide) (by decide)) hp0 hw ⟨ok0, (Fr.rf), (b_wid2 bc_1 (by decide) (by decide))⟩ (Nat.le_of_ble_eq_true rfl) (Nat.le_of_ble_eq_true rfl) dX12_stand_83
      · skip
        have bd482 : (0 : Int) ≤ zi301.toInt ∧ zi301.toInt ≤ 15 := r_lt_x (Int32.not_le.mp cn430) bd302 bd429 (by decide) (by decide)
        have bd483 : (1 : Int) ≤ zi428.toInt ∧ zi428.toInt ≤ 16 := r_lt_y (Int32.not_le.mp cn430) bd302 bd429 (by decide) (by decide)
        refine lv_aload_n hx hb dX12_stand_28 rfl (lv_at hl 0 rfl) ?_
        refine p_get (ci := 12) (v := .ref qa2) (C := RX12) (T := TX12) (N := 69) hx hb hT iw_X12 hown hK hw hW kd900 (by decide) rfl rfl 50 (by decide) eq1 (hT _ tb_1424) (fun _ h9 => h9) dX12_stand_29 ?_
        refine lv_iconst (v := 1) hx hb dX12_stand_32 (by decide) ?_
        obtain ⟨zi485, eq484⟩ := rd_93000 ok0 kd3 ((1 : Int32).toNatClampNeg)
        refine p_iald (v := zi485) hx hb hK hw hW kd3 (by decide) rfl (hW.len kd3 (n := 40) rfl (by decide)) (vp_b bc_1 (by decide) (by decide)) eq484 dX12_stand_33 ?_
        refine lv_aload_n hx hb dX12_stand_34 rfl (lv_at hl 0 rfl) ?_
        refine p_get (ci := 12) (v := .ref qa2) (C := RX12) (T := TX12) (N := 69) hx hb hT iw_X12 hown hK hw hW kd900 (by decide) rfl rfl 50 (by decide) eq1 (hT _ tb_1424) (fun _ h9 => h9) dX12_stand_35 ?_
        refine lv_iconst (v := 2) hx hb dX12_stand_38 (by decide) ?_
        obtain ⟨zi487, eq486⟩ := rd_93000 ok0 kd3 ((2 : Int32).toNatClampNeg)
        refine p_iald (v := zi487) hx hb hK hw hW kd3 (by decide) rfl (hW.len kd3 (n := 40) rfl (by decide)) (vp_b bc_2 (by decide) (by decide)) eq486 dX12_stand_39 ?_
        refine lv_iconst (v := (-1)) hx hb dX12_stand_40 (by decide) ?_
        refine lv_ixor hx hb dX12_stand_41 (lv_topi (fun zi488 ea489 => ?_))
        refine lv_iand hx hb dX12_stand_42 (lv_topi (fun zi490 ea491 => ?_))
        refine lv_aload_n hx hb dX12_stand_43 rfl (lv_at hl 0 rfl) ?_
        refine lv_iload_n hx hb dX12_stand_44 rfl (lv_at hl 1 rfl) ?_
        refine kq_i hw hS hA (va_runV (As := [.int zi901]) (rest := [.int zi490]) ⟨hx, hb, hml, hown, hT⟩ (cX12_wordsOf_0 l G cy ev K ln Ls hW _ hp0 ok0 qa900 zi901 kd900) (cwV 1 hT (good_V tb_1773 tb_1770 tb_1772 tb_82 tb_122) rfl rfl rfl (by decide +kernel) ⟨Nat.le_of_ble_eq_true rfl, Nat.le_of_ble_eq_true rfl⟩) (pool_preV (ci := 12) hK hE hS hA hw hW kd900 (by decide) rfl) rfl rfl hl.1 rfl (lv_room (Nat.le_of_ble_eq_true rfl)) dX12_stand_45 ⟨Nat.le_of_ble_eq_true rfl, Nat.le_of_ble_eq_true rfl⟩) (fun zi496 hp492 H locs hq495 hw hS => ?_)
        obtain ⟨ok493, F494⟩ := hq495
        obtain rfl : hp0 = hp492 := (Fr.nil F494).symm
        have hw : PW G cy K ln Ls A hp0 H := hw
        refine lv_iand hx hb dX12_stand_48 (lv_topi (fun zi497 ea498 => ?_))
        refine lv_iconst (v := 1) hx hb dX12_stand_49 (by decide) ?_
        refine lv_iload hx hb dX12_stand_50 (lv_at hl 3 rfl) ?_
        refine lv_ishl hx hb dX12_stand_52 (lv_topi (fun zi499 ea500 => ?_))
        have bd501 : (1 : Int) ≤ zi499.toInt ∧ zi499.toInt ≤ 32768 := b_shl1 15 ea500 bd482 (by decide) (by decide) (by decide) (by decide) (by decide)
        refine lv_iand hx hb dX12_stand_53 (lv_topi (fun zi502 ea503 => ?_))
        have bd504 : (0 : Int) ≤ zi502.toInt ∧ zi502.toInt ≤ 32768 := b_and_r ea503 bd501 (by decide) (by decide) (by decide)
        have jn515 : ∀ (wl514 : Int64) (H : Heap) (locs : List Loc) (ls : Array Slot), lv_has ls 5 [(0, .ref qa900), (1, .int zi901), (2, .long wl514), (4, .int zi301)] → PW G cy K ln Ls A hp0 H → va_S A s.heap H locs → W p l e ({ frames := 1, cells := 0, slots := 0, locals := 24 } : Room) s m ([.ref qa900, .int zi901] : List Value).toArray below meth c H locs 0 0 Q (F0 m 66 ls []) := by
          intro wl514 H locs ls hl hw hS
          obtain ⟨zi516, ea517⟩ : ∃ z : Int32, z = zi301 + 1 := ⟨_, rfl⟩
          have bd518 : (1 : Int) ≤ zi516.toInt ∧ zi516.toInt ≤ 16 := b_iadd ea517 bd482 bc_1 (by decide) (by decide) (by decide) (by decide)
          have qe519 : zi516.toInt = (zi301 : Int32).toInt + (1 : Int32).toInt := e_iadd ea517 bd482 bc_1 (by decide) (by decide)
          have qe520 : zi516.toInt = zi301.toInt + 1 := by have ha : (1 : Int32).toInt = 1 := (by decide); rw [ha] at qe519; exact qe519
          refine lv_iinc (v := zi516) (lv' := [(4, .int zi516), (0, .ref qa900), (1, .int zi901), (2, .long wl514)]) hx hb dX12_stand_66 hl (k := 3) rfl ea517.symm (by decide) rfl (fun ls hl => ?_)
          refine lv_goto (tgt := 14) hx hb dX12_stand_69 (by decide) ?_
          exact ih418 wl514 zi516 _ _ ls (by have := hm420; have := qe520; omega) (b_wid2 bd518 (by decide) (by decide)) (lv_sub hl [1, 2, 3, 0] rfl) hw hS
        refine lv_if_eq (tgt := 66) hx hb dX12_stand_54 (by decide) (fun cn505 => ?_) (fun cn505 => ?_)
        · skip
          have bd521 : (0 : Int) ≤ zi502.toInt ∧ zi502.toInt ≤ 0 := r_eq_x cn505 bd504 bc_0 (by decide) (by decide)
          exact jn515 wl300 _ _ ls (lv_sub hl [0, 1, 2, 3] rfl) hw hS
        · skip
          have bd522 : (1 : Int) ≤ zi502.toInt ∧ zi502.toInt ≤ 32768 := r_ne_lo cn505 bd504 (toi bc_0) (by decide) (by decide)
          refine lv_lload_n hx hb dX12_stand_57 rfl (lv_at hl 2 rfl) ?_
          refine lv_aload_n hx hb dX12_stand_58 rfl (lv_at hl 0 rfl) ?_
          refine lv_iload hx hb dX12_stand_59 (lv_at hl 3 rfl) ?_
          refine kq_l hw hS hA (va_runV (As := [.int zi301]) (rest := [.long wl300]) ⟨hx, hb, hml, hown, hT⟩ (cX12_holdsOf_0 l G cy ev K ln Ls hW _ hp0 ok0 qa900 zi301 kd900 (b_wid2 bd482 (by decide) (by decide))) (cwV 1 hT (good_V tb_1750 tb_1747 tb_1749 tb_78 tb_122) rfl rfl rfl (by decide +kernel) ⟨Nat.le_of_ble_eq_true rfl, Nat.le_of_ble_eq_true rfl⟩) (pool_preV (ci := 12) hK hE hS hA hw hW kd900 (by decide) rfl) rfl rfl hl.1 rfl (lv_room (Nat.le_of_ble_eq_true rfl)) dX12_stand_61 ⟨Nat.le_of_ble_eq_true rfl, Nat.le_of_ble_eq_true rfl⟩) (fun wl527 hp523 H locs hq526 hw hS => ?_)
          obtain ⟨ok524, F525⟩ := hq526
          obtain rfl : hp0 = hp523 := (Fr.nil F525).symm
          have hw : PW G cy K ln Ls A hp0 H := hw
          refine lv_land hx hb dX12_stand_64 (lv_topl (fun wl528 _ => ?_))
          refine lv_lstore_n (lv' := [(2, .long wl528), (0, .ref qa900), (1, .int zi901), (4, .int zi301)]) hx hb dX12_stand_65 rfl hl (by decide) rfl (fun ls hl => ?_)
          exact jn515 wl528 _ _ ls (lv_sub hl [1, 2, 0, 3] rfl) hw hS
  exact lp419 _ wl10 0 _ _ ls (lp_in _) (b_wid2 bc_0 (by decide) (by decide)) (lv_sub hl [2, 3, 1, 0] rfl) hw hS

set_option maxRecDepth 100000 in
set_option maxHeartbeats 4000000 in
theorem cX12_looksAt_0 (l : Launch) (G : va_G) (cy : Nat → ClassId) (ev : Ew) (K ln : Nat → Nat) (Ls : List Nat) (hW : SW K ln Ls) (sz : Nat) (hp0 : Nat → Nat → Value) (ok0 : Ok K hp0) (qa900 : Nat) (zi901 : Int32) (kd900 : K qa900 = 13) (bd901 : ((-1 : Int) ≤ zi901.toInt ∧ zi901.toInt ≤ 7)) (pdLW : LW hp0 qa900) : Met l yX12_looksAt (WS yX12_looksAt cX12_looksAt 6 (some .int)) { frames := 2, cells := 0, slots := 0, locals := 53 } (PB2 [.ref qa900, .int zi901] sz G cy ev (va_pl Ls (cellOf cy K ln hp0))) (QBi (S := (Nat → Nat → Value)) (fun (r : Int32) (u : (Nat → Nat → Value)) => Ok K u ∧ Fr [13048, 90000, 91000, 93000] K hp0 u) G (fun u => va_pl Ls (cellOf cy K ln u)) (va_A (va_pl Ls (cellOf cy K ln hp0)) sz)) 0 0 (va_A (va_pl Ls (cellOf cy K ln hp0)) sz) := by
  refine met_of2 (y := yX12_looksAt) (L := 6) (av := [.ref qa900, .int zi901]) (Qc := fun A => QBi (S := (Nat → Nat → Value)) (fun (r : Int32) (u : (Nat → Nat → Value)) => Ok K u ∧ Fr [13048, 90000, 91000, 93000] K hp0 u) G (fun u => va_pl Ls (cellOf cy K ln u)) A) (plainFor_of_name (by decide)) (Nat.le_of_ble_eq_true rfl) ?_
  intro p e s m below meth c hsz hx hb hr hml hown hT hlocks hin hK A hA hE hw hS ls hl
  have hw : PW G cy K ln Ls A hp0 s.heap := hw
  have hown : s.vm.findClass "LieClockModel" = some m.cls := hown
  have hl : lv_has ls 6 [(0, .ref qa900), (1, .int zi901)] := hl
  obtain ⟨Q, hQ⟩ : ∃ Q : State → Prop, Q = MQ below (QBi (S := (Nat → Nat → Value)) (fun (r : Int32) (u : (Nat → Nat → Value)) => Ok K u ∧ Fr [13048, 90000, 91000, 93000] K hp0 u) G (fun u => va_pl Ls (cellOf cy K ln u)) A) ([.ref qa900, .int zi901] : List Value).toArray s 0 0 A := ⟨_, rfl⟩
  rw [← hQ]
  refine lv_aload_n hx hb dX12_looksAt_0 rfl (lv_at hl 0 rfl) ?_
  refine lv_iload_n hx hb dX12_looksAt_1 rfl (lv_at hl 1 rfl) ?_
  refine kq_i hw hS hA (va_runV (As := [.int zi901]) (rest := []) ⟨hx, hb, hml, hown, hT⟩ (cX12_stand_0 l G cy ev K ln Ls hW _ hp0 ok0 qa900 zi901 kd900 (b_wid2 bd901 (by decide) (by decide))) (cwV 1 hT (good_V tb_1780 tb_1777 tb_1779 tb_83 tb_122) rfl rfl rfl (by decide +kernel) ⟨Nat.le_of_ble_eq_true rfl, Nat.le_of_ble_eq_true rfl⟩) (pool_preV (ci := 12) hK hE hS hA hw hW kd900 (by decide) rfl) rfl rfl hl.1 rfl (lv_room (Nat.le_of_ble_eq_true rfl)) dX12_looksAt_2 ⟨Nat.le_of_ble_eq_true rfl, Nat.le_of_ble_eq_true rfl⟩) (fun zi5 hp1 H locs hq4 hw hS => ?_)
  obtain ⟨ok2, F3, bd6⟩ := hq4
  obtain rfl : hp0 = hp1 := (Fr.nil F3).symm
  have hw : PW G cy K ln Ls A hp0 H := hw
  refine lv_if_eq (tgt := 10) hx hb dX12_looksAt_5 (by decide) (fun cn7 => ?_) (fun cn7 => ?_)
  · skip
    have bd8 : (0 : Int) ≤ zi5.toInt ∧ zi5.toInt ≤ 0 := r_eq_x cn7 bd6 bc_0 (by decide) (by decide)
    refine lv_aload_n hx hb dX12_looksAt_10 rfl (lv_at hl 0 rfl) ?_
    obtain ⟨qa10, eq9, kd11⟩ := rd_13050 ok0 kd900
    refine p_get (ci := 12) (v := .ref qa10) (C := RX12) (T := TX12) (N := 69) hx hb hT iw_X12 hown hK hw hW kd900 (by decide) rfl rfl 50 (by decide) eq9 (hT _ tb_1424) (fun _ h9 => h9) dX12_looksAt_11 ?_
    refine lv_iconst (v := 1) hx hb dX12_looksAt_14 (by decide) ?_
    obtain ⟨zi13, eq12⟩ := rd_93000 ok0 kd11 ((1 : Int32).toNatClampNeg)
    refine p_iald (v := zi13) hx hb hK hw hW kd11 (by decide) rfl (hW.len kd11 (n := 40) rfl (by decide)) (vp_b bc_1 (by decide) (by decide)) eq12 dX12_looksAt_15 ?_
    refine lv_aload_n hx hb dX12_looksAt_16 rfl (lv_at hl 0 rfl) ?_
    refine p_get (ci := 12) (v := .ref qa10) (C := RX12) (T := TX12) (N := 69) hx hb hT iw_X12 hown hK hw hW kd900 (by decide) rfl rfl 50 (by decide) eq9 (hT _ tb_1424) (fun _ h9 => h9) dX12_looksAt_17 ?_
    refine lv_iconst (v := 2) hx hb dX12_looksAt_20 (by decide) ?_
    obtain ⟨zi15, eq14⟩ := rd_93000 ok0 kd11 ((2 : Int32).toNatClampNeg)
    refine p_iald (v := zi15) hx hb hK hw hW kd11 (by decide) rfl (hW.len kd11 (n := 40) rfl (by decide)) (vp_b bc_2 (by decide) (by decide)) eq14 dX12_looksAt_21 ?_
    refine lv_iconst (v := (-1)) hx hb dX12_looksAt_22 (by decide) ?_
    refine lv_ixor hx hb dX12_looksAt_23 (lv_topi (fun zi16 ea17 => ?_))
    refine lv_iand hx hb dX12_looksAt_24 (lv_topi (fun zi18 ea19 => ?_))
    refine lv_aload_n hx hb dX12_looksAt_25 rfl (lv_at hl 0 rfl) ?_
    refine lv_iload_n hx hb dX12_looksAt_26 rfl (lv_at hl 1 rfl) ?_
    refine kq_i hw hS hA (va_runV (As := [.int zi901]) (rest := [.int zi18]) ⟨hx, hb, hml, hown, hT⟩ (cX12_wordsOf_0 l G cy ev K ln Ls hW _ hp0 ok0 qa900 zi901 kd900) (cwV 1 hT (good_V tb_1773 tb_1770 tb_1772 tb_82 tb_122) rfl rfl rfl (by decide +kernel) ⟨Nat.le_of_ble_eq_true rfl, Nat.le_of_ble_eq_true rfl⟩) (pool_preV (ci := 12) hK hE hS hA hw hW kd900 (by decide) rfl) rfl rfl hl.1 rfl (lv_room (Nat.le_of_ble_eq_true rfl)) dX12_looksAt_27 ⟨Nat.le_of_ble_eq_true rfl, Nat.le_of_ble_eq_true rfl⟩) (fun zi24 hp20 H locs hq23 hw hS => ?_)
    obtain ⟨ok21, F22⟩ := hq23
    obtain rfl : hp0 = hp20 := (Fr.nil F22).symm
    have hw : PW G cy K ln Ls A hp0 H := hw
    refine lv_iand hx hb dX12_looksAt_30 (lv_topi (fun zi25 ea26 => ?_))
    refine lv_istore_n (lv' := [(2, .int zi25), (0, .ref qa900), (1, .int zi901)]) hx hb dX12_looksAt_31 rfl hl (by decide) rfl (fun ls hl => ?_)
    refine lv_iconst (v := 0) hx hb dX12_looksAt_32 (by decide) ?_
    refine lv_istore_n (lv' := [(3, .int 0), (2, .int zi25), (0, .ref qa900), (1, .int zi901)]) hx hb dX12_looksAt_33 rfl hl (by decide) rfl (fun ls hl => ?_)
    refine lv_iconst (v := 0) hx hb dX12_looksAt_34 (by decide) ?_
    refine lv_istore (lv' := [(4, .int 0), (3, .int 0), (2, .int zi25), (0, .ref qa900), (1, .int zi901)]) hx hb dX12_looksAt_35 hl (by decide) rfl (fun ls hl => ?_)
    have lp2412 : ∀ (n2410 : Nat) (hp2106 : Nat → Nat → Value) (zi2104 : Int32) (zi2105 : Int32) (H : Heap) (locs : List Loc) (ls : Array Slot), 16 - zi2105.toInt < (n2410 : Int) → Ok K hp2106 → Fr [13048, 90000, 91000, 93000] K hp0 hp2106 → ((0 : Int) ≤ zi2105.toInt ∧ zi2105.toInt ≤ 16) → lv_has ls 6 [(0, .ref qa900), (1, .int zi901), (2, .int zi25), (3, .int zi2104), (4, .int zi2105)] → PW G cy K ln Ls A hp2106 H → va_S A s.heap H locs → W p l e ({ frames := 2, cells := 0, slots := 0, locals := 53 } : Room) s m ([.ref qa900, .int zi901] : List Value).toArray below meth c H locs 0 0 Q (F0 m 37 ls []) := by
      intro n2410
      induction n2410 with
      | zero =>
        intro hp2106 zi2104 zi2105 H locs ls hm2413 ok2108 F2107 bd2109 hl hw hS
        exact absurd hm2413 (by have := bd2109; omega)
      | succ n2410 ih2411 =>
        intro hp2106 zi2104 zi2105 H locs ls hm2413 ok2108 F2107 bd2109 hl hw hS
        refine lv_iload hx hb dX12_looksAt_37 (lv_at hl 4 rfl) ?_
        refine lv_aload_n hx hb dX12_looksAt_39 rfl (lv_at hl 0 rfl) ?_
        obtain ⟨qa2415, eq2414, kd2416⟩ := rd_13028 ok2108 kd900
        refine p_get (ci := 12) (v := .ref qa2415) (C := RX12) (T := TX12) (N := 69) hx hb hT iw_X12 hown hK hw hW kd900 (by decide) rfl rfl 28 (by decide) eq2414 (hT _ tb_1402) (fun _ h9 => h9) dX12_looksAt_40 ?_
        refine lv_aload_n hx hb dX12_looksAt_43 rfl (lv_at hl 0 rfl) ?_
        obtain ⟨zi2418, eq2417, bd2419⟩ := rd_13018 ok2108 kd900
        refine p_get (ci := 12) (v := .int zi2418) (C := RX12) (T := TX12) (N := 69) hx hb hT iw_X12 hown hK hw hW kd900 (by decide) rfl rfl 18 (by decide) eq2417 (hT _ tb_1392) (fun _ h9 => h9) dX12_looksAt_44 ?_
        obtain ⟨zi2421, eq2420, bd2422⟩ := rd_74000 ok2108 kd2416 ((zi2418 : Int32).toNatClampNeg)
        refine p_iald (v := zi2421) hx hb hK hw hW kd2416 (by decide) rfl (hW.len kd2416 (n := 2) rfl (by decide)) (vp_b bd2419 (by decide) (by decide)) eq2420 dX12_looksAt_47 ?_
        refine lv_icmp_ge (tgt := 152) hx hb dX12_looksAt_48 (by decide) (fun cn2423 => ?_) (fun cn2423 => ?_)
        · skip
          refine lv_iload_n hx hb dX12_looksAt_152 rfl (lv_at hl 3 rfl) ?_
          rw [hQ]
          exact kz_i hx hb hr hlocks hS rfl hp2106 hw ⟨ok2108, (Fr.tr (Fr.rf) F2107 (by decide))⟩ (Nat.le_of_ble_eq_true rfl) (Nat.le_of_ble_eq_true rfl) dX12_looksAt_153
        · skip
          have bd2564 : (0 : Int) ≤ zi2105.toInt ∧ zi2105.toInt ≤ 15 := r_lt_x (Int32.not_le.mp cn2423) bd2109 bd2422 (by decide) (by decide)
          have bd2565 : (1 : Int) ≤ zi2421.toInt ∧ zi2421.toInt ≤ 16 := r_lt_y (Int32.not_le.mp cn2423) bd2109 bd2422 (by decide) (by decide)
          refine lv_iload_n hx hb dX12_looksAt_51 rfl (lv_at hl 2 rfl) ?_
          refine lv_iload hx hb dX12_looksAt_52 (lv_at hl 4 rfl) ?_
          refine lv_ishr hx hb dX12_looksAt_54 (lv_topi (fun zi2566 ea2567 => ?_))
          refine lv_iconst (v := 1) hx hb dX12_looksAt_55 (by decide) ?_
          refine lv_iand hx hb dX12_looksAt_56 (lv_topi (fun zi2568 ea2569 => ?_))
          have bd2570 : (0 : Int) ≤ zi2568.toInt ∧ zi2568.toInt ≤ 1 := b_and_r ea2569 bc_1 (by decide) (by decide) (by decide)
          have jn2637 : ∀ (hp2634 : Nat → Nat → Value) (zi2633 : Int32) (H : Heap) (locs : List Loc) (ls : Array Slot), Ok K hp2634 → Fr [13048, 90000, 91000, 93000] K hp2106 hp2634 → lv_has ls 6 [(0, .ref qa900), (1, .int zi901), (2, .int zi25), (3, .int zi2633), (4, .int zi2105)] → PW G cy K ln Ls A hp2634 H → va_S A s.heap H locs → W p l e ({ frames := 2, cells := 0, slots := 0, locals := 53 } : Room) s m ([.ref qa900, .int zi901] : List Value).toArray below meth c H locs 0 0 Q (F0 m 146 ls []) := by
            intro hp2634 zi2633 H locs ls ok2636 F2635 hl hw hS
            obtain ⟨zi2638, ea2639⟩ : ∃ z : Int32, z = zi2105 + 1 := ⟨_, rfl⟩
            have bd2640 : (1 : Int) ≤ zi2638.toInt ∧ zi2638.toInt ≤ 16 := b_iadd ea2639 bd2564 bc_1 (by decide) (by decide) (by decide) (by decide)
            have qe2641 : zi2638.toInt = (zi2105 : Int32).toInt + (1 : Int32).toInt := e_iadd ea2639 bd2564 bc_1 (by decide) (by decide)
            have qe2642 : zi2638.toInt = zi2105.toInt + 1 := by have ha : (1 : Int32).toInt = 1 := (by decide); rw [ha] at qe2641; exact qe2641
            refine lv_iinc (v := zi2638) (lv' := [(4, .int zi2638), (0, .ref qa900), (1, .int zi901), (2, .int zi25), (3, .int zi2633)]) hx hb dX12_looksAt_146 hl (k := 4) rfl ea2639.symm (by decide) rfl (fun ls hl => ?_)
            refine lv_goto (tgt := 37) hx hb dX12_looksAt_149 (by decide) ?_
            exact ih2411 hp2634 zi2633 zi2638 _ _ ls (by have := hm2413; have := qe2642; omega) ok2636 (Fr.tr (Fr.tr (Fr.rf) F2107 (by decide)) F2635 (by decide)) (b_wid2 bd2640 (by decide) (by decide)) (lv_sub hl [1, 2, 3, 4, 0] rfl) hw hS
          refine lv_if_eq (tgt := 146) hx hb dX12_looksAt_57 (by decide) (fun cn2571 => ?_) (fun cn2571 => ?_)
          · skip
            have bd2643 : (0 : Int) ≤ zi2568.toInt ∧ zi2568.toInt ≤ 0 := r_eq_x cn2571 bd2570 bc_0 (by decide) (by decide)
            exact jn2637 hp2106 zi2104 _ _ ls ok2108 (Fr.rf) (lv_sub hl [0, 1, 2, 3, 4] rfl) hw hS
          · skip
            have bd2644 : (1 : Int) ≤ zi2568.toInt ∧ zi2568.toInt ≤ 1 := r_ne_lo cn2571 bd2570 (toi bc_0) (by decide) (by decide)
            refine lv_aload_n hx hb dX12_looksAt_60 rfl (lv_at hl 0 rfl) ?_
            refine lv_iload hx hb dX12_looksAt_61 (lv_at hl 4 rfl) ?_
            refine kq_i hw hS hA (va_runV (As := [.int zi2105]) (rest := []) ⟨hx, hb, hml, hown, hT⟩ (cX12_isTrue_0 l G cy ev K ln Ls hW _ hp2106 ok2108 qa900 zi2105 kd900 (b_wid2 bd2564 (by decide) (by decide))) (cwV 1 hT (good_V tb_1746 tb_1743 tb_1745 tb_77 tb_122) rfl rfl rfl (by decide +kernel) ⟨Nat.le_of_ble_eq_true rfl, Nat.le_of_ble_eq_true rfl⟩) (pool_preV (ci := 12) hK hE hS hA hw hW kd900 (by decide) rfl) rfl rfl hl.1 rfl (lv_room (Nat.le_of_ble_eq_true rfl)) dX12_looksAt_63 ⟨Nat.le_of_ble_eq_true rfl, Nat.le_of_ble_eq_true rfl⟩) (fun zi2649 hp2645 H locs hq2648 hw hS => ?_)
            obtain ⟨ok2646, F2647, bd2650⟩ := hq2648
            obtain rfl : hp2106 = hp2645 := (Fr.nil F2647).symm
            have hw : PW G cy K ln Ls A hp2106 H := hw
            refine lv_if_eq (tgt := 72) hx hb dX12_looksAt_66 (by decide) (fun cn2651 => ?_) (fun cn2651 => ?_)
            · skip
              have bd2652 : (0 : Int) ≤ zi2649.toInt ∧ zi2649.toInt ≤ 0 := r_eq_x cn2651 bd2650 bc_0 (by decide) (by decide)
              refine lv_aload_n hx hb dX12_looksAt_72 rfl (lv_at hl 0 rfl) ?_
              refine lv_iconst (v := 0) hx hb dX12_looksAt_73 (by decide) ?_
              refine lv_iload_n hx hb dX12_looksAt_74 rfl (lv_at hl 1 rfl) ?_
              have pd2653 : LW hp2106 qa900 := LW_fr ok0 kd900 (show Fr [13048, 90000, 91000, 93000] K hp0 hp2106 from (Fr.tr (Fr.rf) F2107 (by decide))) (by decide) pdLW
              refine kq_i hw hS hA (va_runV (As := [.int 0, .int zi901]) (rest := []) ⟨hx, hb, hml, hown, hT⟩ (cX12_minutesBy_0 l G cy ev K ln Ls hW _ hp2106 ok2108 qa900 0 zi901 kd900 (b_wid2 bc_0 (by decide) (by decide)) (b_wid2 bd901 (by decide) (by decide)) pd2653) (cwV 2 hT (good_V tb_1818 tb_1815 tb_1817 tb_89 tb_122) rfl rfl rfl (by decide +kernel) ⟨Nat.le_of_ble_eq_true rfl, Nat.le_of_ble_eq_true rfl⟩) (pool_preV (ci := 12) hK hE hS hA hw hW kd900 (by decide) rfl) rfl rfl hl.1 rfl (lv_room (Nat.le_of_ble_eq_true rfl)) dX12_looksAt_75 ⟨Nat.le_of_ble_eq_true rfl, Nat.le_of_ble_eq_true rfl⟩) (fun zi2658 hp2654 H locs hq2657 hw hS => ?_)
              obtain ⟨ok2655, F2656, bd2659⟩ := hq2657
              have hw : PW G cy K ln Ls A hp2654 H := hw
              refine lv_istore (lv' := [(5, .int zi2658), (0, .ref qa900), (1, .int zi901), (2, .int zi25), (3, .int zi2104), (4, .int zi2105)]) hx hb dX12_looksAt_78 hl (by decide) rfl (fun ls hl => ?_)
              refine lv_aload_n hx hb dX12_looksAt_80 rfl (lv_at hl 1 rfl) ?_
              have eq2660 : hp2654 qa900 50 = .ref qa10 := Eq.trans (Fr.at (cq := 13050) F2656 kd900 (cd_o (by decide)) (by decide)) (Eq.trans (Fr.at (cq := 13050) F2107 kd900 (cd_o (by decide)) (by decide)) eq9)
              refine p_get (ci := 12) (v := .ref qa10) (C := RX12) (T := TX12) (N := 69) hx hb hT iw_X12 hown hK hw hW kd900 (by decide) rfl rfl 50 (by decide) eq2660 (hT _ tb_1424) (fun _ h9 => h9) dX12_looksAt_81 ?_
              refine lv_iconst (v := 2) hx hb dX12_looksAt_84 (by decide) ?_
              refine lv_dup2_11 hx hb dX12_looksAt_85 rfl rfl ?_
              obtain ⟨zi2662, eq2661⟩ := rd_93000 ok2655 kd11 ((2 : Int32).toNatClampNeg)
              refine p_iald (v := zi2662) hx hb hK hw hW kd11 (by decide) rfl (hW.len kd11 (n := 40) rfl (by decide)) (vp_b bc_2 (by decide) (by decide)) eq2661 dX12_looksAt_86 ?_
              refine lv_iconst (v := 1) hx hb dX12_looksAt_87 (by decide) ?_
              refine lv_iload hx hb dX12_looksAt_88 (lv_at hl 5 rfl) ?_
              refine lv_ishl hx hb dX12_looksAt_90 (lv_topi (fun zi2663 ea2664 => ?_))
              have bd2665 : (1 : Int) ≤ zi2663.toInt ∧ zi2663.toInt ≤ 32768 := b_shl1 15 ea2664 bd2564 (by decide) (by decide) (by decide) (by decide) (by decide)
              refine lv_ior hx hb dX12_looksAt_91 (lv_topi (fun zi2666 ea2667 => ?_))
              refine p_iast (x := zi2666) hx hb hK hw hS hW kd11 (by decide) rfl (hW.len kd11 (n := 40) rfl (by decide)) (vp_b bc_2 (by decide) (by decide)) dX12_looksAt_92 (fun hp2668 eh2669 H locs hw hS => ?_)
              have ok2670 := wr_93000 ok2655 kd11 eh2669
              refine lv_aload_n hx hb dX12_looksAt_93 rfl (lv_at hl 1 rfl) ?_
              have eq2671 : hp2668 qa900 50 = .ref qa10 := Eq.trans (up_at eh2669 (Or.inl (kd_ne kd900 kd11 (by decide)))) eq2660
              refine p_get (ci := 12) (v := .ref qa10) (C := RX12) (T := TX12) (N := 69) hx hb hT iw_X12 hown hK hw hW kd900 (by decide) rfl rfl 50 (by decide) eq2671 (hT _ tb_1424) (fun _ h9 => h9) dX12_looksAt_94 ?_
              refine lv_iconst (v := 0) hx hb dX12_looksAt_97 (by decide) ?_
              refine lv_aload_n hx hb dX12_looksAt_98 rfl (lv_at hl 1 rfl) ?_
              refine p_get (ci := 12) (v := .ref qa10) (C := RX12) (T := TX12) (N := 69) hx hb hT iw_X12 hown hK hw hW kd900 (by decide) rfl rfl 50 (by decide) eq2671 (hT _ tb_1424) (fun _ h9 => h9) dX12_looksAt_99 ?_
              refine lv_iconst (v := 0) hx hb dX12_looksAt_102 (by decide) ?_
              obtain ⟨zi2673, eq2672⟩ := rd_93000 ok2670 kd11 ((0 : Int32).toNatClampNeg)
              refine p_iald (v := zi2673) hx hb hK hw hW kd11 (by decide) rfl (hW.len kd11 (n := 40) rfl (by decide)) (vp_b bc_0 (by decide) (by decide)) eq2672 dX12_looksAt_103 ?_
              refine lv_iload hx hb dX12_looksAt_104 (lv_at hl 0 rfl) ?_
              refine lv_isub hx hb dX12_looksAt_106 (lv_topi (fun zi2674 ea2675 => ?_))
              refine lv_ldcw (v := (-100000)) hx hb hown (hT _ tb_1831) dX12_looksAt_107 ?_
              have jn2682 : ∀ (zi2681 : Int32) (H : Heap) (locs : List Loc) (ls : Array Slot), lv_has ls 6 [(0, .ref qa900), (1, .int zi901), (2, .int zi25), (3, .int zi2104), (4, .int zi2105), (5, .int zi2658)] → PW G cy K ln Ls A hp2668 H → va_S A s.heap H locs → W p l e ({ frames := 2, cells := 0, slots := 0, locals := 53 } : Room) s m ([.ref qa900, .int zi901] : List Value).toArray below meth c H locs 0 0 Q (F0 m 128 ls [.int zi2681, .int 0, .ref qa10]) := by
                intro zi2681 H locs ls hl hw hS
                refine p_iast (x := zi2681) hx hb hK hw hS hW kd11 (by decide) rfl (hW.len kd11 (n := 40) rfl (by decide)) (vp_b bc_0 (by decide) (by decide)) dX12_looksAt_128 (fun hp2683 eh2684 H locs hw hS => ?_)
                have ok2685 := wr_93000 ok2670 kd11 eh2684
                refine lv_aload_n hx hb dX12_looksAt_129 rfl (lv_at hl 0 rfl) ?_
                have eq2686 : hp2683 qa900 50 = .ref qa10 := Eq.trans (up_at eh2684 (Or.inl (kd_ne kd900 kd11 (by decide)))) eq2671
                refine p_get (ci := 12) (v := .ref qa10) (C := RX12) (T := TX12) (N := 69) hx hb hT iw_X12 hown hK hw hW kd900 (by decide) rfl rfl 50 (by decide) eq2686 (hT _ tb_1424) (fun _ h9 => h9) dX12_looksAt_130 ?_
                refine lv_bipush (v := 20) hx hb dX12_looksAt_133 (by decide) ?_
                refine lv_iload_n hx hb dX12_looksAt_135 rfl (lv_at hl 1 rfl) ?_
                refine lv_iadd hx hb dX12_looksAt_136 (lv_topi (fun zi2687 ea2688 => ?_))
                have bd2689 : (19 : Int) ≤ zi2687.toInt ∧ zi2687.toInt ≤ 27 := b_iadd ea2688 bc_20 bd901 (by decide) (by decide) (by decide) (by decide)
                refine lv_dup2_11 hx hb dX12_looksAt_137 rfl rfl ?_
                obtain ⟨zi2691, eq2690⟩ := rd_93000 ok2685 kd11 ((zi2687 : Int32).toNatClampNeg)
                refine p_iald (v := zi2691) hx hb hK hw hW kd11 (by decide) rfl (hW.len kd11 (n := 40) rfl (by decide)) (vp_b bd2689 (by decide) (by decide)) eq2690 dX12_looksAt_138 ?_
                refine lv_iload hx hb dX12_looksAt_139 (lv_at hl 5 rfl) ?_
                refine lv_isub hx hb dX12_looksAt_141 (lv_topi (fun zi2692 ea2693 => ?_))
                refine p_iast (x := zi2692) hx hb hK hw hS hW kd11 (by decide) rfl (hW.len kd11 (n := 40) rfl (by decide)) (vp_b bd2689 (by decide) (by decide)) dX12_looksAt_142 (fun hp2694 eh2695 H locs hw hS => ?_)
                have ok2696 := wr_93000 ok2685 kd11 eh2695
                obtain ⟨zi2697, ea2698⟩ : ∃ z : Int32, z = zi2104 + 1 := ⟨_, rfl⟩
                refine lv_iinc (v := zi2697) (lv' := [(3, .int zi2697), (0, .ref qa900), (1, .int zi901), (2, .int zi25), (4, .int zi2105), (5, .int zi2658)]) hx hb dX12_looksAt_143 hl (k := 3) rfl ea2698.symm (by decide) rfl (fun ls hl => ?_)
                exact jn2637 hp2694 zi2697 _ _ ls ok2696 (Fr.put (cq := 93000) (Fr.put (cq := 93000) (Fr.put (cq := 93000) (Fr.tr (Fr.rf) F2656 (by decide)) eh2669 kd11 (cd_a (by decide)) (by decide)) eh2684 kd11 (cd_a (by decide)) (by decide)) eh2695 kd11 (cd_a (by decide)) (by decide)) (lv_sub hl [1, 2, 3, 0, 4] rfl) hw hS
              refine lv_icmp_ge (tgt := 119) hx hb dX12_looksAt_110 (by decide) (fun cn2676 => ?_) (fun cn2676 => ?_)
              · skip
                have bd2699 : (-100000 : Int) ≤ zi2674.toInt ∧ zi2674.toInt ≤ 2147483647 := r_le_y cn2676 bc_m100000 (b_all zi2674) (by decide) (by decide)
                refine lv_aload_n hx hb dX12_looksAt_119 rfl (lv_at hl 1 rfl) ?_
                refine p_get (ci := 12) (v := .ref qa10) (C := RX12) (T := TX12) (N := 69) hx hb hT iw_X12 hown hK hw hW kd900 (by decide) rfl rfl 50 (by decide) eq2671 (hT _ tb_1424) (fun _ h9 => h9) dX12_looksAt_120 ?_
                refine lv_iconst (v := 0) hx hb dX12_looksAt_123 (by decide) ?_
                refine p_iald (v := zi2673) hx hb hK hw hW kd11 (by decide) rfl (hW.len kd11 (n := 40) rfl (by decide)) (vp_b bc_0 (by decide) (by decide)) eq2672 dX12_looksAt_124 ?_
                refine lv_iload hx hb dX12_looksAt_125 (lv_at hl 0 rfl) ?_
                refine lv_isub hx hb dX12_looksAt_127 (lv_topi (fun zi2700 ea2701 => ?_))
                exact jn2682 zi2700 _ _ ls (lv_sub hl [1, 2, 3, 4, 5, 0] rfl) hw hS
              · skip
                have bd2702 : (-2147483648 : Int) ≤ zi2674.toInt ∧ zi2674.toInt ≤ -100001 := r_lt_x (Int32.not_le.mp cn2676) (b_all zi2674) bc_m100000 (by decide) (by decide)
                refine lv_ldcw (v := (-100000)) hx hb hown (hT _ tb_1831) dX12_looksAt_113 ?_
                refine lv_goto (tgt := 128) hx hb dX12_looksAt_116 (by decide) ?_
                exact jn2682 ((-100000)) _ _ ls (lv_sub hl [1, 2, 3, 4, 5, 0] rfl) hw hS
            · skip
              have bd2703 : (1 : Int) ≤ zi2649.toInt ∧ zi2649.toInt ≤ 1 := r_ne_lo cn2651 bd2650 (toi bc_0) (by decide) (by decide)
              refine lv_goto (tgt := 146) hx hb dX12_looksAt_69 (by decide) ?_
              exact jn2637 hp2106 zi2104 _ _ ls ok2108 (Fr.rf) (lv_sub hl [0, 1, 2, 3, 4] rfl) hw hS
    exact lp2412 _ hp0 0 0 _ _ ls (lp_in _) ok0 (Fr.rf) (b_wid2 bc_0 (by decide) (by decide)) (lv_sub hl [3, 4, 2, 1, 0] rfl) hw hS
  · skip
    have bd2704 : (1 : Int) ≤ zi5.toInt ∧ zi5.toInt ≤ 1 := r_ne_lo cn7 bd6 (toi bc_0) (by decide) (by decide)
    refine lv_iconst (v := 0) hx hb dX12_looksAt_8 (by decide) ?_
    rw [hQ]
    exact kz_i hx hb hr hlocks hS rfl hp0 hw ⟨ok0, (Fr.rf)⟩ (Nat.le_of_ble_eq_true rfl) (Nat.le_of_ble_eq_true rfl) dX12_looksAt_9

set_option maxRecDepth 100000 in
set_option maxHeartbeats 4000000 in
theorem cX12_sayNow_0 (l : Launch) (G : va_G) (cy : Nat → ClassId) (ev : Ew) (K ln : Nat → Nat) (Ls : List Nat) (hW : SW K ln Ls) (sz : Nat) (hp0 : Nat → Nat → Value) (ok0 : Ok K hp0) (qa900 : Nat) (zi901 : Int32) (kd900 : K qa900 = 13) (bd901 : ((0 : Int) ≤ zi901.toInt ∧ zi901.toInt ≤ 15)) (pdLW : LW hp0 qa900) : Met l yX12_sayNow (WS yX12_sayNow cX12_sayNow 6 (some .int)) { frames := 3, cells := 0, slots := 0, locals := 78 } (PB2 [.ref qa900, .int zi901] sz G cy ev (va_pl Ls (cellOf cy K ln hp0))) (QBi (S := (Nat → Nat → Value)) (fun (r : Int32) (u : (Nat → Nat → Value)) => Ok K u ∧ Fr [13048, 13051, 90000, 91000, 93000] K hp0 u ∧ ((0 : Int) ≤ r.toInt ∧ r.toInt ≤ 2)) G (fun u => va_pl Ls (cellOf cy K ln u)) (va_A (va_pl Ls (cellOf cy K ln hp0)) sz)) 0 0 (va_A (va_pl Ls (cellOf cy K ln hp0)) sz) := by
  refine met_of2 (y := yX12_sayNow) (L := 6) (av := [.ref qa900, .int zi901]) (Qc := fun A => QBi (S := (Nat → Nat → Value)) (fun (r : Int32) (u : (Nat → Nat → Value)) => Ok K u ∧ Fr [13048, 13051, 90000, 91000, 93000] K hp0 u ∧ ((0 : Int) ≤ r.toInt ∧ r.toInt ≤ 2)) G (fun u => va_pl Ls (cellOf cy K ln u)) A) (plainFor_of_name (by decide)) (Nat.le_of_ble_eq_true rfl) ?_
  intro p e s m below meth c hsz hx hb hr hml hown hT hlocks hin hK A hA hE hw hS ls hl
  have hw : PW G cy K ln Ls A hp0 s.heap := hw
  have hown : s.vm.findClass "LieClockModel" = some m.cls := hown
  have hl : lv_has ls 6 [(0, .ref qa900), (1, .int zi901)] := hl
  obtain ⟨Q, hQ⟩ : ∃ Q : State → Prop, Q = MQ below (QBi (S := (Nat → Nat → Value)) (fun (r : Int32) (u : (Nat → Nat → Value)) => Ok K u ∧ Fr [13048, 13051, 90000, 91000, 93000] K hp0 u ∧ ((0 : Int) ≤ r.toInt ∧ r.toInt ≤ 2)) G (fun u => va_pl Ls (cellOf cy K ln u)) A) ([.ref qa900, .int zi901] : List Value).toArray s 0 0 A := ⟨_, rfl⟩
  rw [← hQ]
  refine lv_aload_n hx hb dX12_sayNow_0 rfl (lv_at hl 0 rfl) ?_
  refine lv_iconst (v := 1) hx hb dX12_sayNow_1 (by decide) ?_
  refine kq_v hw hS hA (va_runV (As := [.int 1]) (rest := []) ⟨hx, hb, hml, hown, hT⟩ (cX12_forward_0 l G cy ev K ln Ls hW _ hp0 ok0 qa900 1 kd900) (cwV 1 hT (good_V tb_1813 tb_1810 tb_1812 tb_88 tb_122) rfl rfl rfl (by decide +kernel) ⟨Nat.le_of_ble_eq_true rfl, Nat.le_of_ble_eq_true rfl⟩) (pool_preV (ci := 12) hK hE hS hA hw hW kd900 (by decide) rfl) rfl rfl hl.1 rfl (lv_room (Nat.le_of_ble_eq_true rfl)) dX12_sayNow_2 ⟨Nat.le_of_ble_eq_true rfl, Nat.le_of_ble_eq_true rfl⟩) (fun hp1 H locs hq4 hw hS => ?_)
  obtain ⟨ok2, F3⟩ := hq4
  have hw : PW G cy K ln Ls A hp1 H := hw
  refine lv_aload_n hx hb dX12_sayNow_5 rfl (lv_at hl 0 rfl) ?_
  obtain ⟨qa7, eq6, kd8⟩ := rd_13029 ok2 kd900
  refine p_get (ci := 12) (v := .ref qa7) (C := RX12) (T := TX12) (N := 69) hx hb hT iw_X12 hown hK hw hW kd900 (by decide) rfl rfl 29 (by decide) eq6 (hT _ tb_1403) (fun _ h9 => h9) dX12_sayNow_6 ?_
  refine lv_bipush (v := 16) hx hb dX12_sayNow_9 (by decide) ?_
  refine lv_aload_n hx hb dX12_sayNow_11 rfl (lv_at hl 0 rfl) ?_
  obtain ⟨zi10, eq9, bd11⟩ := rd_13018 ok2 kd900
  refine p_get (ci := 12) (v := .int zi10) (C := RX12) (T := TX12) (N := 69) hx hb hT iw_X12 hown hK hw hW kd900 (by decide) rfl rfl 18 (by decide) eq9 (hT _ tb_1392) (fun _ h9 => h9) dX12_sayNow_12 ?_
  refine lv_imul hx hb dX12_sayNow_15 (lv_topi (fun zi12 ea13 => ?_))
  have bd14 : (0 : Int) ≤ zi12.toInt ∧ zi12.toInt ≤ 16 := b_imul ea13 bc_16 bd11 (by decide) (by decide) (by decide) (by decide) (by decide)
  refine lv_iload_n hx hb dX12_sayNow_16 rfl (lv_at hl 1 rfl) ?_
  refine lv_iadd hx hb dX12_sayNow_17 (lv_topi (fun zi15 ea16 => ?_))
  have bd17 : (0 : Int) ≤ zi15.toInt ∧ zi15.toInt ≤ 31 := b_iadd ea16 bd14 bd901 (by decide) (by decide) (by decide) (by decide)
  obtain ⟨zi19, eq18, bd20⟩ := rd_75000 ok2 kd8 ((zi15 : Int32).toNatClampNeg)
  refine p_iald (v := zi19) hx hb hK hw hW kd8 (by decide) rfl (hW.len kd8 (n := 32) rfl (by decide)) (vp_b bd17 (by decide) (by decide)) eq18 dX12_sayNow_18 ?_
  refine lv_istore_n (lv' := [(2, .int zi19), (0, .ref qa900), (1, .int zi901)]) hx hb dX12_sayNow_19 rfl hl (by decide) rfl (fun ls hl => ?_)
  refine lv_aload_n hx hb dX12_sayNow_20 rfl (lv_at hl 1 rfl) ?_
  obtain ⟨qa22, eq21, kd23⟩ := rd_13050 ok2 kd900
  refine p_get (ci := 12) (v := .ref qa22) (C := RX12) (T := TX12) (N := 69) hx hb hT iw_X12 hown hK hw hW kd900 (by decide) rfl rfl 50 (by decide) eq21 (hT _ tb_1424) (fun _ h9 => h9) dX12_sayNow_21 ?_
  refine lv_iconst (v := 1) hx hb dX12_sayNow_24 (by decide) ?_
  obtain ⟨zi25, eq24⟩ := rd_93000 ok2 kd23 ((1 : Int32).toNatClampNeg)
  refine p_iald (v := zi25) hx hb hK hw hW kd23 (by decide) rfl (hW.len kd23 (n := 40) rfl (by decide)) (vp_b bc_1 (by decide) (by decide)) eq24 dX12_sayNow_25 ?_
  refine lv_iload_n hx hb dX12_sayNow_26 rfl (lv_at hl 2 rfl) ?_
  refine lv_ishr hx hb dX12_sayNow_27 (lv_topi (fun zi26 ea27 => ?_))
  refine lv_iconst (v := 1) hx hb dX12_sayNow_28 (by decide) ?_
  refine lv_iand hx hb dX12_sayNow_29 (lv_topi (fun zi28 ea29 => ?_))
  have bd30 : (0 : Int) ≤ zi28.toInt ∧ zi28.toInt ≤ 1 := b_and_r ea29 bc_1 (by decide) (by decide) (by decide)
  refine lv_iconst (v := 1) hx hb dX12_sayNow_30 (by decide) ?_
  have jn36 : ∀ (zi34 : Int32) (H : Heap) (locs : List Loc) (ls : Array Slot), ((0 : Int) ≤ zi34.toInt ∧ zi34.toInt ≤ 1) → lv_has ls 6 [(0, .ref qa900), (1, .int zi901), (2, .int zi19)] → PW G cy K ln Ls A hp1 H → va_S A s.heap H locs → W p l e ({ frames := 3, cells := 0, slots := 0, locals := 78 } : Room) s m ([.ref qa900, .int zi901] : List Value).toArray below meth c H locs 0 0 Q (F0 m 39 ls [.int zi34]) := by
    intro zi34 H locs ls bd35 hl hw hS
    refine lv_istore_n (lv' := [(3, .int zi34), (0, .ref qa900), (1, .int zi901), (2, .int zi19)]) hx hb dX12_sayNow_39 rfl hl (by decide) rfl (fun ls hl => ?_)
    refine lv_aload_n hx hb dX12_sayNow_40 rfl (lv_at hl 1 rfl) ?_
    refine p_get (ci := 12) (v := .ref qa22) (C := RX12) (T := TX12) (N := 69) hx hb hT iw_X12 hown hK hw hW kd900 (by decide) rfl rfl 50 (by decide) eq21 (hT _ tb_1424) (fun _ h9 => h9) dX12_sayNow_41 ?_
    refine lv_iconst (v := 1) hx hb dX12_sayNow_44 (by decide) ?_
    refine lv_dup2_11 hx hb dX12_sayNow_45 rfl rfl ?_
    refine p_iald (v := zi25) hx hb hK hw hW kd23 (by decide) rfl (hW.len kd23 (n := 40) rfl (by decide)) (vp_b bc_1 (by decide) (by decide)) eq24 dX12_sayNow_46 ?_
    refine lv_iconst (v := 1) hx hb dX12_sayNow_47 (by decide) ?_
    refine lv_iload_n hx hb dX12_sayNow_48 rfl (lv_at hl 2 rfl) ?_
    refine lv_ishl hx hb dX12_sayNow_49 (lv_topi (fun zi37 ea38 => ?_))
    have bd39 : (1 : Int) ≤ zi37.toInt ∧ zi37.toInt ≤ 32768 := b_shl1 15 ea38 bd901 (by decide) (by decide) (by decide) (by decide) (by decide)
    refine lv_ior hx hb dX12_sayNow_50 (lv_topi (fun zi40 ea41 => ?_))
    refine p_iast (x := zi40) hx hb hK hw hS hW kd23 (by decide) rfl (hW.len kd23 (n := 40) rfl (by decide)) (vp_b bc_1 (by decide) (by decide)) dX12_sayNow_51 (fun hp42 eh43 H locs hw hS => ?_)
    have ok44 := wr_93000 ok2 kd23 eh43
    refine lv_aload_n hx hb dX12_sayNow_52 rfl (lv_at hl 1 rfl) ?_
    obtain ⟨qa46, eq45, kd47⟩ := rd_13030 ok44 kd900
    refine p_get (ci := 12) (v := .ref qa46) (C := RX12) (T := TX12) (N := 69) hx hb hT iw_X12 hown hK hw hW kd900 (by decide) rfl rfl 30 (by decide) eq45 (hT _ tb_1404) (fun _ h9 => h9) dX12_sayNow_53 ?_
    refine lv_bipush (v := 16) hx hb dX12_sayNow_56 (by decide) ?_
    refine lv_aload_n hx hb dX12_sayNow_58 rfl (lv_at hl 1 rfl) ?_
    have eq48 : hp42 qa900 18 = .int zi10 := Eq.trans (up_at eh43 (Or.inl (kd_ne kd900 kd23 (by decide)))) eq9
    refine p_get (ci := 12) (v := .int zi10) (C := RX12) (T := TX12) (N := 69) hx hb hT iw_X12 hown hK hw hW kd900 (by decide) rfl rfl 18 (by decide) eq48 (hT _ tb_1392) (fun _ h9 => h9) dX12_sayNow_59 ?_
    refine lv_imul hx hb dX12_sayNow_62 (lv_topi (fun zi49 ea50 => ?_))
    have bd51 : (0 : Int) ≤ zi49.toInt ∧ zi49.toInt ≤ 16 := b_imul ea50 bc_16 bd11 (by decide) (by decide) (by decide) (by decide) (by decide)
    refine lv_iload_n hx hb dX12_sayNow_63 rfl (lv_at hl 2 rfl) ?_
    refine lv_iadd hx hb dX12_sayNow_64 (lv_topi (fun zi52 ea53 => ?_))
    have bd54 : (0 : Int) ≤ zi52.toInt ∧ zi52.toInt ≤ 31 := b_iadd ea53 bd51 bd901 (by decide) (by decide) (by decide) (by decide)
    obtain ⟨zi56, eq55, bd57⟩ := rd_76000 ok44 kd47 ((zi52 : Int32).toNatClampNeg)
    refine p_zald (v := zi56) hx hb hK hw hW kd47 (by decide) rfl (hW.len kd47 (n := 32) rfl (by decide)) (vp_b bd54 (by decide) (by decide)) eq55 dX12_sayNow_65 ?_
    have jn75 : ∀ (zi73 : Int32) (H : Heap) (locs : List Loc) (ls : Array Slot), ((0 : Int) ≤ zi73.toInt ∧ zi73.toInt ≤ 1) → lv_has ls 6 [(0, .ref qa900), (2, .int zi19)] → PW G cy K ln Ls A hp42 H → va_S A s.heap H locs → W p l e ({ frames := 3, cells := 0, slots := 0, locals := 78 } : Room) s m ([.ref qa900, .int zi901] : List Value).toArray below meth c H locs 0 0 Q (F0 m 86 ls [.int zi73]) := by
      intro zi73 H locs ls bd74 hl hw hS
      refine lv_istore (lv' := [(4, .int zi73), (0, .ref qa900), (2, .int zi19)]) hx hb dX12_sayNow_86 hl (by decide) rfl (fun ls hl => ?_)
      refine lv_iload hx hb dX12_sayNow_88 (lv_at hl 0 rfl) ?_
      have jn105 : ∀ (hp102 : Nat → Nat → Value)  (H : Heap) (locs : List Loc) (ls : Array Slot), Ok K hp102 → Fr [13048, 13051, 90000, 91000, 93000] K hp42 hp102 → lv_has ls 6 [(0, .ref qa900), (2, .int zi19), (4, .int zi73)] → PW G cy K ln Ls A hp102 H → va_S A s.heap H locs → W p l e ({ frames := 3, cells := 0, slots := 0, locals := 78 } : Room) s m ([.ref qa900, .int zi901] : List Value).toArray below meth c H locs 0 0 Q (F0 m 121 ls []) := by
        intro hp102 H locs ls ok104 F103 hl hw hS
        refine lv_aload_n hx hb dX12_sayNow_121 rfl (lv_at hl 0 rfl) ?_
        refine lv_iload_n hx hb dX12_sayNow_122 rfl (lv_at hl 1 rfl) ?_
        have pd106 : LW hp102 qa900 := LW_fr ok0 kd900 (show Fr [13048, 13051, 90000, 91000, 93000] K hp0 hp102 from (Fr.tr (Fr.put (cq := 93000) (Fr.tr (Fr.rf) F3 (by decide)) eh43 kd23 (cd_a (by decide)) (by decide)) F103 (by decide))) (by decide) pdLW
        refine kq_i hw hS hA (va_runV (As := [.int zi19]) (rest := []) ⟨hx, hb, hml, hown, hT⟩ (cX12_looksAt_0 l G cy ev K ln Ls hW _ hp102 ok104 qa900 zi19 kd900 (b_wid2 bd20 (by decide) (by decide)) pd106) (cwV 1 hT (good_V tb_1830 tb_1827 tb_1829 tb_92 tb_122) rfl rfl rfl (by decide +kernel) ⟨Nat.le_of_ble_eq_true rfl, Nat.le_of_ble_eq_true rfl⟩) (pool_preV (ci := 12) hK hE hS hA hw hW kd900 (by decide) rfl) rfl rfl hl.1 rfl (lv_room (Nat.le_of_ble_eq_true rfl)) dX12_sayNow_123 ⟨Nat.le_of_ble_eq_true rfl, Nat.le_of_ble_eq_true rfl⟩) (fun zi111 hp107 H locs hq110 hw hS => ?_)
        obtain ⟨ok108, F109⟩ := hq110
        have hw : PW G cy K ln Ls A hp107 H := hw
        refine lv_if_le (tgt := 133) hx hb dX12_sayNow_126 (by decide) (fun cn112 => ?_) (fun cn112 => ?_)
        · skip
          have bd113 : (-2147483648 : Int) ≤ zi111.toInt ∧ zi111.toInt ≤ 0 := r_le_x cn112 (b_all zi111) bc_0 (by decide) (by decide)
          refine lv_iload hx hb dX12_sayNow_133 (lv_at hl 2 rfl) ?_
          refine lv_if_eq (tgt := 142) hx hb dX12_sayNow_135 (by decide) (fun cn114 => ?_) (fun cn114 => ?_)
          · skip
            have bd115 : (0 : Int) ≤ zi73.toInt ∧ zi73.toInt ≤ 0 := r_eq_x cn114 bd74 bc_0 (by decide) (by decide)
            refine lv_iconst (v := 0) hx hb dX12_sayNow_142 (by decide) ?_
            rw [hQ]
            exact kz_i hx hb hr hlocks hS rfl hp107 hw ⟨ok108, (Fr.tr (Fr.tr (Fr.put (cq := 93000) (Fr.tr (Fr.rf) F3 (by decide)) eh43 kd23 (cd_a (by decide)) (by decide)) F103 (by decide)) F109 (by decide)), (b_wid2 bc_0 (by decide) (by decide))⟩ (Nat.le_of_ble_eq_true rfl) (Nat.le_of_ble_eq_true rfl) dX12_sayNow_143
          · skip
            have bd116 : (1 : Int) ≤ zi73.toInt ∧ zi73.toInt ≤ 1 := r_ne_lo cn114 bd74 (toi bc_0) (by decide) (by decide)
            refine lv_iconst (v := 2) hx hb dX12_sayNow_138 (by decide) ?_
            refine lv_goto (tgt := 143) hx hb dX12_sayNow_139 (by decide) ?_
            rw [hQ]
            exact kz_i hx hb hr hlocks hS rfl hp107 hw ⟨ok108, (Fr.tr (Fr.tr (Fr.put (cq := 93000) (Fr.tr (Fr.rf) F3 (by decide)) eh43 kd23 (cd_a (by decide)) (by decide)) F103 (by decide)) F109 (by decide)), (b_wid2 bc_2 (by decide) (by decide))⟩ (Nat.le_of_ble_eq_true rfl) (Nat.le_of_ble_eq_true rfl) dX12_sayNow_143
        · skip
          have bd117 : (1 : Int) ≤ zi111.toInt ∧ zi111.toInt ≤ 2147483647 := r_lt_y (Int32.not_le.mp cn112) bc_0 (b_all zi111) (by decide) (by decide)
          refine lv_iconst (v := 1) hx hb dX12_sayNow_129 (by decide) ?_
          refine lv_goto (tgt := 143) hx hb dX12_sayNow_130 (by decide) ?_
          rw [hQ]
          exact kz_i hx hb hr hlocks hS rfl hp107 hw ⟨ok108, (Fr.tr (Fr.tr (Fr.put (cq := 93000) (Fr.tr (Fr.rf) F3 (by decide)) eh43 kd23 (cd_a (by decide)) (by decide)) F103 (by decide)) F109 (by decide)), (b_wid2 bc_1 (by decide) (by decide))⟩ (Nat.le_of_ble_eq_true rfl) (Nat.le_of_ble_eq_true rfl) dX12_sayNow_143
      refine lv_if_eq (tgt := 121) hx hb dX12_sayNow_90 (by decide) (fun cn76 => ?_) (fun cn76 => ?_)
      · skip
        have bd118 : (0 : Int) ≤ zi73.toInt ∧ zi73.toInt ≤ 0 := r_eq_x cn76 bd74 bc_0 (by decide) (by decide)
        exact jn105 hp42 _ _ ls ok44 (Fr.rf) (lv_sub hl [1, 2, 0] rfl) hw hS
      · skip
        have bd119 : (1 : Int) ≤ zi73.toInt ∧ zi73.toInt ≤ 1 := r_ne_lo cn76 bd74 (toi bc_0) (by decide) (by decide)
        refine lv_aload_n hx hb dX12_sayNow_93 rfl (lv_at hl 1 rfl) ?_
        refine lv_iconst (v := 1) hx hb dX12_sayNow_94 (by decide) ?_
        refine lv_iload_n hx hb dX12_sayNow_95 rfl (lv_at hl 2 rfl) ?_
        have pd120 : LW hp42 qa900 := LW_fr ok0 kd900 (show Fr [13051, 93000] K hp0 hp42 from (Fr.put (cq := 93000) (Fr.tr (Fr.rf) F3 (by decide)) eh43 kd23 (cd_a (by decide)) (by decide))) (by decide) pdLW
        refine kq_i hw hS hA (va_runV (As := [.int 1, .int zi19]) (rest := []) ⟨hx, hb, hml, hown, hT⟩ (cX12_minutesBy_0 l G cy ev K ln Ls hW _ hp42 ok44 qa900 1 zi19 kd900 (b_wid2 bc_1 (by decide) (by decide)) (b_wid2 bd20 (by decide) (by decide)) pd120) (cwV 2 hT (good_V tb_1818 tb_1815 tb_1817 tb_89 tb_122) rfl rfl rfl (by decide +kernel) ⟨Nat.le_of_ble_eq_true rfl, Nat.le_of_ble_eq_true rfl⟩) (pool_preV (ci := 12) hK hE hS hA hw hW kd900 (by decide) rfl) rfl rfl hl.1 rfl (lv_room (Nat.le_of_ble_eq_true rfl)) dX12_sayNow_96 ⟨Nat.le_of_ble_eq_true rfl, Nat.le_of_ble_eq_true rfl⟩) (fun zi125 hp121 H locs hq124 hw hS => ?_)
        obtain ⟨ok122, F123, bd126⟩ := hq124
        have hw : PW G cy K ln Ls A hp121 H := hw
        refine lv_istore (lv' := [(5, .int zi125), (4, .int zi73), (0, .ref qa900), (2, .int zi19)]) hx hb dX12_sayNow_99 hl (by decide) rfl (fun ls hl => ?_)
        refine lv_aload_n hx hb dX12_sayNow_101 rfl (lv_at hl 2 rfl) ?_
        have eq127 : hp121 qa900 50 = .ref qa22 := Eq.trans (Fr.at (cq := 13050) F123 kd900 (cd_o (by decide)) (by decide)) (Eq.trans (up_at eh43 (Or.inl (kd_ne kd900 kd23 (by decide)))) eq21)
        refine p_get (ci := 12) (v := .ref qa22) (C := RX12) (T := TX12) (N := 69) hx hb hT iw_X12 hown hK hw hW kd900 (by decide) rfl rfl 50 (by decide) eq127 (hT _ tb_1424) (fun _ h9 => h9) dX12_sayNow_102 ?_
        refine lv_bipush (v := 20) hx hb dX12_sayNow_105 (by decide) ?_
        refine lv_iload_n hx hb dX12_sayNow_107 rfl (lv_at hl 3 rfl) ?_
        refine lv_iadd hx hb dX12_sayNow_108 (lv_topi (fun zi128 ea129 => ?_))
        have bd130 : (19 : Int) ≤ zi128.toInt ∧ zi128.toInt ≤ 27 := b_iadd ea129 bc_20 bd20 (by decide) (by decide) (by decide) (by decide)
        refine lv_dup2_11 hx hb dX12_sayNow_109 rfl rfl ?_
        obtain ⟨zi132, eq131⟩ := rd_93000 ok122 kd23 ((zi128 : Int32).toNatClampNeg)
        refine p_iald (v := zi132) hx hb hK hw hW kd23 (by decide) rfl (hW.len kd23 (n := 40) rfl (by decide)) (vp_b bd130 (by decide) (by decide)) eq131 dX12_sayNow_110 ?_
        refine lv_iload hx hb dX12_sayNow_111 (lv_at hl 0 rfl) ?_
        refine lv_iadd hx hb dX12_sayNow_113 (lv_topi (fun zi133 ea134 => ?_))
        refine p_iast (x := zi133) hx hb hK hw hS hW kd23 (by decide) rfl (hW.len kd23 (n := 40) rfl (by decide)) (vp_b bd130 (by decide) (by decide)) dX12_sayNow_114 (fun hp135 eh136 H locs hw hS => ?_)
        have ok137 := wr_93000 ok122 kd23 eh136
        refine lv_aload_n hx hb dX12_sayNow_115 rfl (lv_at hl 2 rfl) ?_
        refine lv_iload hx hb dX12_sayNow_116 (lv_at hl 0 rfl) ?_
        refine kq_v hw hS hA (va_runV (As := [.int zi125]) (rest := []) ⟨hx, hb, hml, hown, hT⟩ (cX12_forward_0 l G cy ev K ln Ls hW _ hp135 ok137 qa900 zi125 kd900) (cwV 1 hT (good_V tb_1813 tb_1810 tb_1812 tb_88 tb_122) rfl rfl rfl (by decide +kernel) ⟨Nat.le_of_ble_eq_true rfl, Nat.le_of_ble_eq_true rfl⟩) (pool_preV (ci := 12) hK hE hS hA hw hW kd900 (by decide) rfl) rfl rfl hl.1 rfl (lv_room (Nat.le_of_ble_eq_true rfl)) dX12_sayNow_118 ⟨Nat.le_of_ble_eq_true rfl, Nat.le_of_ble_eq_true rfl⟩) (fun hp138 H locs hq141 hw hS => ?_)
        obtain ⟨ok139, F140⟩ := hq141
        have hw : PW G cy K ln Ls A hp138 H := hw
        exact jn105 hp138 _ _ ls ok139 (Fr.tr (Fr.put (cq := 93000) (Fr.tr (Fr.rf) F123 (by decide)) eh136 kd23 (cd_a (by decide)) (by decide)) F140 (by decide)) (lv_sub hl [2, 3, 1] rfl) hw hS
    refine lv_if_eq (tgt := 85) hx hb dX12_sayNow_66 (by decide) (fun cn58 => ?_) (fun cn58 => ?_)
    · skip
      have bd143 : (0 : Int) ≤ zi56.toInt ∧ zi56.toInt ≤ 0 := r_eq_x cn58 bd57 bc_0 (by decide) (by decide)
      refine lv_iconst (v := 0) hx hb dX12_sayNow_85 (by decide) ?_
      exact jn75 0 _ _ ls (b_wid2 bc_0 (by decide) (by decide)) (lv_sub hl [1, 3] rfl) hw hS
    · skip
      have bd144 : (1 : Int) ≤ zi56.toInt ∧ zi56.toInt ≤ 1 := r_ne_lo cn58 bd57 (toi bc_0) (by decide) (by decide)
      refine lv_aload_n hx hb dX12_sayNow_69 rfl (lv_at hl 1 rfl) ?_
      refine lv_iload_n hx hb dX12_sayNow_70 rfl (lv_at hl 2 rfl) ?_
      refine kq_i hw hS hA (va_runV (As := [.int zi901]) (rest := []) ⟨hx, hb, hml, hown, hT⟩ (cX12_isTrue_0 l G cy ev K ln Ls hW _ hp42 ok44 qa900 zi901 kd900 (b_wid2 bd901 (by decide) (by decide))) (cwV 1 hT (good_V tb_1746 tb_1743 tb_1745 tb_77 tb_122) rfl rfl rfl (by decide +kernel) ⟨Nat.le_of_ble_eq_true rfl, Nat.le_of_ble_eq_true rfl⟩) (pool_preV (ci := 12) hK hE hS hA hw hW kd900 (by decide) rfl) rfl rfl hl.1 rfl (lv_room (Nat.le_of_ble_eq_true rfl)) dX12_sayNow_71 ⟨Nat.le_of_ble_eq_true rfl, Nat.le_of_ble_eq_true rfl⟩) (fun zi149 hp145 H locs hq148 hw hS => ?_)
      obtain ⟨ok146, F147, bd150⟩ := hq148
      obtain rfl : hp42 = hp145 := (Fr.nil F147).symm
      have hw : PW G cy K ln Ls A hp42 H := hw
      refine lv_if_eq (tgt := 85) hx hb dX12_sayNow_74 (by decide) (fun cn151 => ?_) (fun cn151 => ?_)
      · skip
        have bd152 : (0 : Int) ≤ zi149.toInt ∧ zi149.toInt ≤ 0 := r_eq_x cn151 bd150 bc_0 (by decide) (by decide)
        refine lv_iconst (v := 0) hx hb dX12_sayNow_85 (by decide) ?_
        exact jn75 0 _ _ ls (b_wid2 bc_0 (by decide) (by decide)) (lv_sub hl [1, 3] rfl) hw hS
      · skip
        have bd153 : (1 : Int) ≤ zi149.toInt ∧ zi149.toInt ≤ 1 := r_ne_lo cn151 bd150 (toi bc_0) (by decide) (by decide)
        refine lv_iload_n hx hb dX12_sayNow_77 rfl (lv_at hl 0 rfl) ?_
        refine lv_if_ne (tgt := 85) hx hb dX12_sayNow_78 (by decide) (fun cn154 => ?_) (fun cn154 => ?_)
        · skip
          have bd155 : (1 : Int) ≤ zi34.toInt ∧ zi34.toInt ≤ 1 := r_ne_lo cn154 bd35 (toi bc_0) (by decide) (by decide)
          refine lv_iconst (v := 0) hx hb dX12_sayNow_85 (by decide) ?_
          exact jn75 0 _ _ ls (b_wid2 bc_0 (by decide) (by decide)) (lv_sub hl [1, 3] rfl) hw hS
        · skip
          have bd156 : (0 : Int) ≤ zi34.toInt ∧ zi34.toInt ≤ 0 := r_eq_x cn154 bd35 bc_0 (by decide) (by decide)
          refine lv_iconst (v := 1) hx hb dX12_sayNow_81 (by decide) ?_
          refine lv_goto (tgt := 86) hx hb dX12_sayNow_82 (by decide) ?_
          exact jn75 1 _ _ ls (b_wid2 bc_1 (by decide) (by decide)) (lv_sub hl [1, 3] rfl) hw hS
  refine lv_icmp_ne (tgt := 38) hx hb dX12_sayNow_31 (by decide) (fun cn31 => ?_) (fun cn31 => ?_)
  · skip
    have bd157 : (0 : Int) ≤ zi28.toInt ∧ zi28.toInt ≤ 0 := r_ne_hi cn31 bd30 (toi bc_1) (by decide) (by decide)
    refine lv_iconst (v := 0) hx hb dX12_sayNow_38 (by decide) ?_
    exact jn36 0 _ _ ls (b_wid2 bc_0 (by decide) (by decide)) (lv_sub hl [1, 2, 0] rfl) hw hS
  · skip
    have bd158 : (1 : Int) ≤ zi28.toInt ∧ zi28.toInt ≤ 1 := r_eq_x cn31 bd30 bc_1 (by decide) (by decide)
    refine lv_iconst (v := 1) hx hb dX12_sayNow_34 (by decide) ?_
    refine lv_goto (tgt := 39) hx hb dX12_sayNow_35 (by decide) ?_
    exact jn36 1 _ _ ls (b_wid2 bc_1 (by decide) (by decide)) (lv_sub hl [1, 2, 0] rfl) hw hS

set_option maxRecDepth 100000 in
set_option maxHeartbeats 4000000 in
theorem cX12_clock_0 (l : Launch) (G : va_G) (cy : Nat → ClassId) (ev : Ew) (K ln : Nat → Nat) (Ls : List Nat) (hW : SW K ln Ls) (sz : Nat) (hp0 : Nat → Nat → Value) (ok0 : Ok K hp0) (qa900 : Nat) (kd900 : K qa900 = 13) : Met l yX12_clock (WS yX12_clock cX12_clock 1 (some .int)) { frames := 0, cells := 0, slots := 0, locals := 0 } (PB2 [.ref qa900] sz G cy ev (va_pl Ls (cellOf cy K ln hp0))) (QBi (S := (Nat → Nat → Value)) (fun (r : Int32) (u : (Nat → Nat → Value)) => Ok K u ∧ Fr [] K hp0 u) G (fun u => va_pl Ls (cellOf cy K ln u)) (va_A (va_pl Ls (cellOf cy K ln hp0)) sz)) 0 0 (va_A (va_pl Ls (cellOf cy K ln hp0)) sz) := by
  refine met_of2 (y := yX12_clock) (L := 1) (av := [.ref qa900]) (Qc := fun A => QBi (S := (Nat → Nat → Value)) (fun (r : Int32) (u : (Nat → Nat → Value)) => Ok K u ∧ Fr [] K hp0 u) G (fun u => va_pl Ls (cellOf cy K ln u)) A) (plainFor_of_name (by decide)) (Nat.le_of_ble_eq_true rfl) ?_
  intro p e s m below meth c hsz hx hb hr hml hown hT hlocks hin hK A hA hE hw hS ls hl
  have hw : PW G cy K ln Ls A hp0 s.heap := hw
  have hown : s.vm.findClass "LieClockModel" = some m.cls := hown
  have hl : lv_has ls 1 [(0, .ref qa900)] := hl
  obtain ⟨Q, hQ⟩ : ∃ Q : State → Prop, Q = MQ below (QBi (S := (Nat → Nat → Value)) (fun (r : Int32) (u : (Nat → Nat → Value)) => Ok K u ∧ Fr [] K hp0 u) G (fun u => va_pl Ls (cellOf cy K ln u)) A) ([.ref qa900] : List Value).toArray s 0 0 A := ⟨_, rfl⟩
  rw [← hQ]
  refine lv_aload_n hx hb dX12_clock_0 rfl (lv_at hl 0 rfl) ?_
  obtain ⟨qa2, eq1, kd3⟩ := rd_13049 ok0 kd900
  refine p_get (ci := 12) (v := .ref qa2) (C := RX12) (T := TX12) (N := 69) hx hb hT iw_X12 hown hK hw hW kd900 (by decide) rfl rfl 49 (by decide) eq1 (hT _ tb_1423) (fun _ h9 => h9) dX12_clock_1 ?_
  refine lv_iconst (v := 0) hx hb dX12_clock_4 (by decide) ?_
  obtain ⟨zi5, eq4⟩ := rd_92000 ok0 kd3 ((0 : Int32).toNatClampNeg)
  refine p_iald (v := zi5) hx hb hK hw hW kd3 (by decide) rfl (hW.len kd3 (n := 40) rfl (by decide)) (vp_b bc_0 (by decide) (by decide)) eq4 dX12_clock_5 ?_
  rw [hQ]
  exact kz_i hx hb hr hlocks hS rfl hp0 hw ⟨ok0, (Fr.rf)⟩ (Nat.le_of_ble_eq_true rfl) (Nat.le_of_ble_eq_true rfl) dX12_clock_6

set_option maxRecDepth 100000 in
set_option maxHeartbeats 4000000 in
theorem cX12_in_3 (l : Launch) (G : va_G) (cy : Nat → ClassId) (ev : Ew) (K ln : Nat → Nat) (Ls : List Nat) (hW : SW K ln Ls) (sz : Nat) (hp0 : Nat → Nat → Value) (ok0 : Ok K hp0) (zi900 : Int32) (zi901 : Int32) (zi902 : Int32) (bd901 : ((0 : Int) ≤ zi901.toInt ∧ zi901.toInt ≤ 0)) (bd902 : ((1 : Int) ≤ zi902.toInt ∧ zi902.toInt ≤ 1)) : Met l yX12_in (WS yX12_in cX12_in 3 (some .boolean)) { frames := 0, cells := 0, slots := 0, locals := 0 } (PB2 [.int zi900, .int zi901, .int zi902] sz G cy ev (va_pl Ls (cellOf cy K ln hp0))) (QBi (S := (Nat → Nat → Value)) (fun (r : Int32) (u : (Nat → Nat → Value)) => Ok K u ∧ Fr [] K hp0 u ∧ ((0 : Int) ≤ r.toInt ∧ r.toInt ≤ 1) ∧ (r = 1 → ((0 : Int) ≤ zi900.toInt ∧ zi900.toInt ≤ 1))) G (fun u => va_pl Ls (cellOf cy K ln u)) (va_A (va_pl Ls (cellOf cy K ln hp0)) sz)) 0 0 (va_A (va_pl Ls (cellOf cy K ln hp0)) sz) := by
  refine met_of2 (y := yX12_in) (L := 3) (av := [.int zi900, .int zi901, .int zi902]) (Qc := fun A => QBi (S := (Nat → Nat → Value)) (fun (r : Int32) (u : (Nat → Nat → Value)) => Ok K u ∧ Fr [] K hp0 u ∧ ((0 : Int) ≤ r.toInt ∧ r.toInt ≤ 1) ∧ (r = 1 → ((0 : Int) ≤ zi900.toInt ∧ zi900.toInt ≤ 1))) G (fun u => va_pl Ls (cellOf cy K ln u)) A) (plainFor_of_name (by decide)) (Nat.le_of_ble_eq_true rfl) ?_
  intro p e s m below meth c hsz hx hb hr hml hown hT hlocks hin hK A hA hE hw hS ls hl
  have hw : PW G cy K ln Ls A hp0 s.heap := hw
  have hown : s.vm.findClass "LieClockModel" = some m.cls := hown
  have hl : lv_has ls 3 [(0, .int zi900), (1, .int zi901), (2, .int zi902)] := hl
  obtain ⟨Q, hQ⟩ : ∃ Q : State → Prop, Q = MQ below (QBi (S := (Nat → Nat → Value)) (fun (r : Int32) (u : (Nat → Nat → Value)) => Ok K u ∧ Fr [] K hp0 u ∧ ((0 : Int) ≤ r.toInt ∧ r.toInt ≤ 1) ∧ (r = 1 → ((0 : Int) ≤ zi900.toInt ∧ zi900.toInt ≤ 1))) G (fun u => va_pl Ls (cellOf cy K ln u)) A) ([.int zi900, .int zi901, .int zi902] : List Value).toArray s 0 0 A := ⟨_, rfl⟩
  rw [← hQ]
  refine lv_iload_n hx hb dX12_in_0 rfl (lv_at hl 0 rfl) ?_
  refine lv_iload_n hx hb dX12_in_1 rfl (lv_at hl 1 rfl) ?_
  refine lv_icmp_lt (tgt := 14) hx hb dX12_in_2 (by decide) (fun cn1 => ?_) (fun cn1 => ?_)
  · skip
    have bd2 : (-2147483648 : Int) ≤ zi900.toInt ∧ zi900.toInt ≤ -1 := r_lt_x cn1 (b_all zi900) bd901 (by decide) (by decide)
    refine lv_iconst (v := 0) hx hb dX12_in_14 (by decide) ?_
    rw [hQ]
    exact kz_i hx hb hr hlocks hS (nz_n bc_0 (by decide) (by decide)) hp0 hw ⟨ok0, (Fr.rf), (b_wid2 bc_0 (by decide) (by decide)), (fun h => absurd h (by decide))⟩ (Nat.le_of_ble_eq_true rfl) (Nat.le_of_ble_eq_true rfl) dX12_in_15
  · skip
    have bd3 : (0 : Int) ≤ zi900.toInt ∧ zi900.toInt ≤ 2147483647 := r_le_y (Int32.not_lt.mp cn1) bd901 (b_all zi900) (by decide) (by decide)
    refine lv_iload_n hx hb dX12_in_5 rfl (lv_at hl 0 rfl) ?_
    refine lv_iload_n hx hb dX12_in_6 rfl (lv_at hl 2 rfl) ?_
    refine lv_icmp_gt (tgt := 14) hx hb dX12_in_7 (by decide) (fun cn4 => ?_) (fun cn4 => ?_)
    · skip
      have bd5 : (2 : Int) ≤ zi900.toInt ∧ zi900.toInt ≤ 2147483647 := r_lt_y cn4 bd902 bd3 (by decide) (by decide)
      refine lv_iconst (v := 0) hx hb dX12_in_14 (by decide) ?_
      rw [hQ]
      exact kz_i hx hb hr hlocks hS (nz_n bc_0 (by decide) (by decide)) hp0 hw ⟨ok0, (Fr.rf), (b_wid2 bc_0 (by decide) (by decide)), (fun h => absurd h (by decide))⟩ (Nat.le_of_ble_eq_true rfl) (Nat.le_of_ble_eq_true rfl) dX12_in_15
    · skip
      have bd6 : (0 : Int) ≤ zi900.toInt ∧ zi900.toInt ≤ 1 := r_le_x (Int32.not_lt.mp cn4) bd3 bd902 (by decide) (by decide)
      refine lv_iconst (v := 1) hx hb dX12_in_10 (by decide) ?_
      refine lv_goto (tgt := 15) hx hb dX12_in_11 (by decide) ?_
      rw [hQ]
      exact kz_i hx hb hr hlocks hS (nz_n bc_1 (by decide) (by decide)) hp0 hw ⟨ok0, (Fr.rf), (b_wid2 bc_1 (by decide) (by decide)), (fun _ => b_wid2 bd6 (by decide) (by decide))⟩ (Nat.le_of_ble_eq_true rfl) (Nat.le_of_ble_eq_true rfl) dX12_in_15

set_option maxRecDepth 100000 in
set_option maxHeartbeats 4000000 in
theorem cX12_fact_0 (l : Launch) (G : va_G) (cy : Nat → ClassId) (ev : Ew) (K ln : Nat → Nat) (Ls : List Nat) (hW : SW K ln Ls) (sz : Nat) (hp0 : Nat → Nat → Value) (ok0 : Ok K hp0) (qa900 : Nat) (zi901 : Int32) (zi902 : Int32) (kd900 : K qa900 = 13) : Met l yX12_fact (WS yX12_fact cX12_fact 3 (some .int)) { frames := 1, cells := 0, slots := 0, locals := 22 } (PB2 [.ref qa900, .int zi901, .int zi902] sz G cy ev (va_pl Ls (cellOf cy K ln hp0))) (QBi (S := (Nat → Nat → Value)) (fun (r : Int32) (u : (Nat → Nat → Value)) => Ok K u ∧ Fr [] K hp0 u ∧ ((-1 : Int) ≤ r.toInt ∧ r.toInt ≤ 1)) G (fun u => va_pl Ls (cellOf cy K ln u)) (va_A (va_pl Ls (cellOf cy K ln hp0)) sz)) 0 0 (va_A (va_pl Ls (cellOf cy K ln hp0)) sz) := by
  refine met_of2 (y := yX12_fact) (L := 3) (av := [.ref qa900, .int zi901, .int zi902]) (Qc := fun A => QBi (S := (Nat → Nat → Value)) (fun (r : Int32) (u : (Nat → Nat → Value)) => Ok K u ∧ Fr [] K hp0 u ∧ ((-1 : Int) ≤ r.toInt ∧ r.toInt ≤ 1)) G (fun u => va_pl Ls (cellOf cy K ln u)) A) (plainFor_of_name (by decide)) (Nat.le_of_ble_eq_true rfl) ?_
  intro p e s m below meth c hsz hx hb hr hml hown hT hlocks hin hK A hA hE hw hS ls hl
  have hw : PW G cy K ln Ls A hp0 s.heap := hw
  have hown : s.vm.findClass "LieClockModel" = some m.cls := hown
  have hl : lv_has ls 3 [(0, .ref qa900), (1, .int zi901), (2, .int zi902)] := hl
  obtain ⟨Q, hQ⟩ : ∃ Q : State → Prop, Q = MQ below (QBi (S := (Nat → Nat → Value)) (fun (r : Int32) (u : (Nat → Nat → Value)) => Ok K u ∧ Fr [] K hp0 u ∧ ((-1 : Int) ≤ r.toInt ∧ r.toInt ≤ 1)) G (fun u => va_pl Ls (cellOf cy K ln u)) A) ([.ref qa900, .int zi901, .int zi902] : List Value).toArray s 0 0 A := ⟨_, rfl⟩
  rw [← hQ]
  refine lv_iload_n hx hb dX12_fact_0 rfl (lv_at hl 1 rfl) ?_
  refine lv_iconst (v := 0) hx hb dX12_fact_1 (by decide) ?_
  refine lv_aload_n hx hb dX12_fact_2 rfl (lv_at hl 0 rfl) ?_
  obtain ⟨qa2, eq1, kd3⟩ := rd_13024 ok0 kd900
  refine p_get (ci := 12) (v := .ref qa2) (C := RX12) (T := TX12) (N := 69) hx hb hT iw_X12 hown hK hw hW kd900 (by decide) rfl rfl 24 (by decide) eq1 (hT _ tb_1398) (fun _ h9 => h9) dX12_fact_3 ?_
  refine lv_aload_n hx hb dX12_fact_6 rfl (lv_at hl 0 rfl) ?_
  obtain ⟨zi5, eq4, bd6⟩ := rd_13018 ok0 kd900
  refine p_get (ci := 12) (v := .int zi5) (C := RX12) (T := TX12) (N := 69) hx hb hT iw_X12 hown hK hw hW kd900 (by decide) rfl rfl 18 (by decide) eq4 (hT _ tb_1392) (fun _ h9 => h9) dX12_fact_7 ?_
  obtain ⟨zi8, eq7, bd9⟩ := rd_70000 ok0 kd3 ((zi5 : Int32).toNatClampNeg)
  refine p_iald (v := zi8) hx hb hK hw hW kd3 (by decide) rfl (hW.len kd3 (n := 2) rfl (by decide)) (vp_b bd6 (by decide) (by decide)) eq7 dX12_fact_10 ?_
  refine lv_iconst (v := 1) hx hb dX12_fact_11 (by decide) ?_
  refine lv_isub hx hb dX12_fact_12 (lv_topi (fun zi10 ea11 => ?_))
  have bd12 : (-1 : Int) ≤ zi10.toInt ∧ zi10.toInt ≤ 5 := b_isub ea11 bd9 bc_1 (by decide) (by decide) (by decide) (by decide)
  have qe13 : zi10.toInt = (zi8 : Int32).toInt - (1 : Int32).toInt := e_isub ea11 bd9 bc_1 (by decide) (by decide)
  have qe14 : zi10.toInt = zi8.toInt - 1 := by have ha : (1 : Int32).toInt = 1 := (by decide); rw [ha] at qe13; exact qe13
  refine kq_i hw hS hA (va_runS (As := [.int zi901, .int 0, .int zi10]) (rest := []) ⟨hx, hb, hml, hown, hT⟩ (cX12_in_2 l G cy ev K ln Ls hW _ hp0 ok0 zi901 0 zi10 (b_wid2 bc_0 (by decide) (by decide)) (b_wid2 bd12 (by decide) (by decide))) (va_cwS 3 hT (good_S tb_1734 tb_1732 tb_1733 tb_122) rfl rfl rfl (by decide +kernel) ⟨Nat.le_of_ble_eq_true rfl, Nat.le_of_ble_eq_true rfl⟩) (PB2.preS hK hE hS hA hw) rfl rfl hl.1 rfl (lv_room (Nat.le_of_ble_eq_true rfl)) dX12_fact_13 ⟨Nat.le_of_ble_eq_true rfl, Nat.le_of_ble_eq_true rfl⟩) (fun zi19 hp15 H locs hq18 hw hS => ?_)
  obtain ⟨ok16, F17, bd20, hc21, hc22⟩ := hq18
  obtain rfl : hp0 = hp15 := (Fr.nil F17).symm
  have hw : PW G cy K ln Ls A hp0 H := hw
  rcases b01 bd20 with cn23 | cn23
  · skip
    subst cn23
    refine lv_if_eq (tgt := 28) hx hb dX12_fact_16 (by decide) (fun _ => ?_) (fun c => absurd (d_eq bc_0 bc_0) c)
    refine lv_iconst (v := (-1)) hx hb dX12_fact_28 (by decide) ?_
    rw [hQ]
    exact kz_i hx hb hr hlocks hS rfl hp0 hw ⟨ok0, (Fr.rf), (b_wid2 bc_m1 (by decide) (by decide))⟩ (Nat.le_of_ble_eq_true rfl) (Nat.le_of_ble_eq_true rfl) dX12_fact_29
  · skip
    subst cn23
    have bd24 : (0 : Int) ≤ zi901.toInt ∧ zi901.toInt ≤ 5 := b_meet (b_all zi901) (hc21 rfl) (by decide) (by decide)
    have bd25 : (0 : Int) ≤ zi10.toInt ∧ zi10.toInt ≤ 5 := b_meet bd12 (hc22 rfl) (by decide) (by decide)
    have bd26 : (1 : Int) ≤ zi8.toInt ∧ zi8.toInt ≤ 6 := (by have := qe14; have := bd25; have := bd9; have := bc_1; omega)
    refine lv_if_eq (tgt := 28) hx hb dX12_fact_16 (by decide) (fun c => absurd c (d_ne bc_1 bc_0 (by decide))) (fun _ => ?_)
    refine lv_iload_n hx hb dX12_fact_19 rfl (lv_at hl 2 rfl) ?_
    refine lv_iconst (v := 0) hx hb dX12_fact_20 (by decide) ?_
    refine lv_iconst (v := 1) hx hb dX12_fact_21 (by decide) ?_
    refine kq_i hw hS hA (va_runS (As := [.int zi902, .int 0, .int 1]) (rest := []) ⟨hx, hb, hml, hown, hT⟩ (cX12_in_3 l G cy ev K ln Ls hW _ hp0 ok0 zi902 0 1 (b_wid2 bc_0 (by decide) (by decide)) (b_wid2 bc_1 (by decide) (by decide))) (va_cwS 3 hT (good_S tb_1734 tb_1732 tb_1733 tb_122) rfl rfl rfl (by decide +kernel) ⟨Nat.le_of_ble_eq_true rfl, Nat.le_of_ble_eq_true rfl⟩) (PB2.preS hK hE hS hA hw) rfl rfl hl.1 rfl (lv_room (Nat.le_of_ble_eq_true rfl)) dX12_fact_22 ⟨Nat.le_of_ble_eq_true rfl, Nat.le_of_ble_eq_true rfl⟩) (fun zi31 hp27 H locs hq30 hw hS => ?_)
    obtain ⟨ok28, F29, bd32, hc33⟩ := hq30
    obtain rfl : hp0 = hp27 := (Fr.nil F29).symm
    have hw : PW G cy K ln Ls A hp0 H := hw
    rcases b01 bd32 with cn34 | cn34
    · skip
      subst cn34
      refine lv_if_ne (tgt := 30) hx hb dX12_fact_25 (by decide) (fun c => absurd (d_eq bc_0 bc_0) c) (fun _ => ?_)
      refine lv_iconst (v := (-1)) hx hb dX12_fact_28 (by decide) ?_
      rw [hQ]
      exact kz_i hx hb hr hlocks hS rfl hp0 hw ⟨ok0, (Fr.rf), (b_wid2 bc_m1 (by decide) (by decide))⟩ (Nat.le_of_ble_eq_true rfl) (Nat.le_of_ble_eq_true rfl) dX12_fact_29
    · skip
      subst cn34
      have bd35 : (0 : Int) ≤ zi902.toInt ∧ zi902.toInt ≤ 1 := b_meet (b_all zi902) (hc33 rfl) (by decide) (by decide)
      refine lv_if_ne (tgt := 30) hx hb dX12_fact_25 (by decide) (fun _ => ?_) (fun c => absurd c (d_ne bc_1 bc_0 (by decide)))
      refine lv_iload_n hx hb dX12_fact_30 rfl (lv_at hl 2 rfl) ?_
      have jn50 : ∀ (zi49 : Int32) (H : Heap) (locs : List Loc) (ls : Array Slot), lv_has ls 3 [(1, .int zi901)] → PW G cy K ln Ls A hp0 H → va_S A s.heap H locs → W p l e ({ frames := 1, cells := 0, slots := 0, locals := 22 } : Room) s m ([.ref qa900, .int zi901, .int zi902] : List Value).toArray below meth c H locs 0 0 Q (F0 m 52 ls [.int zi49]) := by
        intro zi49 H locs ls hl hw hS
        refine lv_iload_n hx hb dX12_fact_52 rfl (lv_at hl 0 rfl) ?_
        refine lv_ishr hx hb dX12_fact_53 (lv_topi (fun zi51 ea52 => ?_))
        refine lv_iconst (v := 1) hx hb dX12_fact_54 (by decide) ?_
        refine lv_iand hx hb dX12_fact_55 (lv_topi (fun zi53 ea54 => ?_))
        have bd55 : (0 : Int) ≤ zi53.toInt ∧ zi53.toInt ≤ 1 := b_and_r ea54 bc_1 (by decide) (by decide) (by decide)
        rw [hQ]
        exact kz_i hx hb hr hlocks hS rfl hp0 hw ⟨ok0, (Fr.rf), (b_wid2 bd55 (by decide) (by decide))⟩ (Nat.le_of_ble_eq_true rfl) (Nat.le_of_ble_eq_true rfl) dX12_fact_56
      refine lv_if_ne (tgt := 46) hx hb dX12_fact_31 (by decide) (fun cn36 => ?_) (fun cn36 => ?_)
      · skip
        have bd56 : (1 : Int) ≤ zi902.toInt ∧ zi902.toInt ≤ 1 := r_ne_lo cn36 bd35 (toi bc_0) (by decide) (by decide)
        refine lv_aload_n hx hb dX12_fact_46 rfl (lv_at hl 0 rfl) ?_
        obtain ⟨qa58, eq57, kd59⟩ := rd_13049 ok0 kd900
        refine p_get (ci := 12) (v := .ref qa58) (C := RX12) (T := TX12) (N := 69) hx hb hT iw_X12 hown hK hw hW kd900 (by decide) rfl rfl 49 (by decide) eq57 (hT _ tb_1423) (fun _ h9 => h9) dX12_fact_47 ?_
        refine lv_iconst (v := 3) hx hb dX12_fact_50 (by decide) ?_
        obtain ⟨zi61, eq60⟩ := rd_92000 ok0 kd59 ((3 : Int32).toNatClampNeg)
        refine p_iald (v := zi61) hx hb hK hw hW kd59 (by decide) rfl (hW.len kd59 (n := 40) rfl (by decide)) (vp_b bc_3 (by decide) (by decide)) eq60 dX12_fact_51 ?_
        exact jn50 zi61 _ _ ls (lv_sub hl [1] rfl) hw hS
      · skip
        have bd62 : (0 : Int) ≤ zi902.toInt ∧ zi902.toInt ≤ 0 := r_eq_x cn36 bd35 bc_0 (by decide) (by decide)
        refine lv_aload_n hx hb dX12_fact_34 rfl (lv_at hl 0 rfl) ?_
        obtain ⟨qa64, eq63, kd65⟩ := rd_13025 ok0 kd900
        refine p_get (ci := 12) (v := .ref qa64) (C := RX12) (T := TX12) (N := 69) hx hb hT iw_X12 hown hK hw hW kd900 (by decide) rfl rfl 25 (by decide) eq63 (hT _ tb_1399) (fun _ h9 => h9) dX12_fact_35 ?_
        refine lv_aload_n hx hb dX12_fact_38 rfl (lv_at hl 0 rfl) ?_
        refine p_get (ci := 12) (v := .int zi5) (C := RX12) (T := TX12) (N := 69) hx hb hT iw_X12 hown hK hw hW kd900 (by decide) rfl rfl 18 (by decide) eq4 (hT _ tb_1392) (fun _ h9 => h9) dX12_fact_39 ?_
        obtain ⟨zi67, eq66⟩ := rd_71000 ok0 kd65 ((zi5 : Int32).toNatClampNeg)
        refine p_iald (v := zi67) hx hb hK hw hW kd65 (by decide) rfl (hW.len kd65 (n := 2) rfl (by decide)) (vp_b bd6 (by decide) (by decide)) eq66 dX12_fact_42 ?_
        refine lv_goto (tgt := 52) hx hb dX12_fact_43 (by decide) ?_
        exact jn50 zi67 _ _ ls (lv_sub hl [1] rfl) hw hS

set_option maxRecDepth 100000 in
set_option maxHeartbeats 4000000 in
theorem cX12_word__0 (l : Launch) (G : va_G) (cy : Nat → ClassId) (ev : Ew) (K ln : Nat → Nat) (Ls : List Nat) (hW : SW K ln Ls) (sz : Nat) (hp0 : Nat → Nat → Value) (ok0 : Ok K hp0) (qa900 : Nat) (zi901 : Int32) (zi902 : Int32) (kd900 : K qa900 = 13) : Met l yX12_word_ (WS yX12_word_ cX12_word_ 3 (some .int)) { frames := 2, cells := 0, slots := 0, locals := 43 } (PB2 [.ref qa900, .int zi901, .int zi902] sz G cy ev (va_pl Ls (cellOf cy K ln hp0))) (QBi (S := (Nat → Nat → Value)) (fun (r : Int32) (u : (Nat → Nat → Value)) => Ok K u ∧ Fr [] K hp0 u) G (fun u => va_pl Ls (cellOf cy K ln u)) (va_A (va_pl Ls (cellOf cy K ln hp0)) sz)) 0 0 (va_A (va_pl Ls (cellOf cy K ln hp0)) sz) := by
  refine met_of2 (y := yX12_word_) (L := 3) (av := [.ref qa900, .int zi901, .int zi902]) (Qc := fun A => QBi (S := (Nat → Nat → Value)) (fun (r : Int32) (u : (Nat → Nat → Value)) => Ok K u ∧ Fr [] K hp0 u) G (fun u => va_pl Ls (cellOf cy K ln u)) A) (plainFor_of_name (by decide)) (Nat.le_of_ble_eq_true rfl) ?_
  intro p e s m below meth c hsz hx hb hr hml hown hT hlocks hin hK A hA hE hw hS ls hl
  have hw : PW G cy K ln Ls A hp0 s.heap := hw
  have hown : s.vm.findClass "LieClockModel" = some m.cls := hown
  have hl : lv_has ls 3 [(0, .ref qa900), (1, .int zi901), (2, .int zi902)] := hl
  obtain ⟨Q, hQ⟩ : ∃ Q : State → Prop, Q = MQ below (QBi (S := (Nat → Nat → Value)) (fun (r : Int32) (u : (Nat → Nat → Value)) => Ok K u ∧ Fr [] K hp0 u) G (fun u => va_pl Ls (cellOf cy K ln u)) A) ([.ref qa900, .int zi901, .int zi902] : List Value).toArray s 0 0 A := ⟨_, rfl⟩
  rw [← hQ]
  refine lv_aload_n hx hb dX12_word__0 rfl (lv_at hl 0 rfl) ?_
  refine lv_iload_n hx hb dX12_word__1 rfl (lv_at hl 1 rfl) ?_
  refine kq_i hw hS hA (va_runV (As := [.int zi901]) (rest := []) ⟨hx, hb, hml, hown, hT⟩ (cX12_isWord_0 l G cy ev K ln Ls hW _ hp0 ok0 qa900 zi901 kd900) (cwV 1 hT (good_V tb_1742 tb_1739 tb_1741 tb_76 tb_122) rfl rfl rfl (by decide +kernel) ⟨Nat.le_of_ble_eq_true rfl, Nat.le_of_ble_eq_true rfl⟩) (pool_preV (ci := 12) hK hE hS hA hw hW kd900 (by decide) rfl) rfl rfl hl.1 rfl (lv_room (Nat.le_of_ble_eq_true rfl)) dX12_word__2 ⟨Nat.le_of_ble_eq_true rfl, Nat.le_of_ble_eq_true rfl⟩) (fun zi5 hp1 H locs hq4 hw hS => ?_)
  obtain ⟨ok2, F3, bd6, hc7⟩ := hq4
  obtain rfl : hp0 = hp1 := (Fr.nil F3).symm
  have hw : PW G cy K ln Ls A hp0 H := hw
  rcases b01 bd6 with cn8 | cn8
  · skip
    subst cn8
    refine lv_if_ne (tgt := 10) hx hb dX12_word__5 (by decide) (fun c => absurd (d_eq bc_0 bc_0) c) (fun _ => ?_)
    refine lv_iconst (v := (-1)) hx hb dX12_word__8 (by decide) ?_
    rw [hQ]
    exact kz_i hx hb hr hlocks hS rfl hp0 hw ⟨ok0, (Fr.rf)⟩ (Nat.le_of_ble_eq_true rfl) (Nat.le_of_ble_eq_true rfl) dX12_word__9
  · skip
    subst cn8
    have bd9 : (0 : Int) ≤ zi901.toInt ∧ zi901.toInt ≤ 15 := b_meet (b_all zi901) (hc7 rfl) (by decide) (by decide)
    refine lv_if_ne (tgt := 10) hx hb dX12_word__5 (by decide) (fun _ => ?_) (fun c => absurd c (d_ne bc_1 bc_0 (by decide)))
    refine lv_iload_n hx hb dX12_word__10 rfl (lv_at hl 2 rfl) ?_
    by_cases cn10 : zi902 = 0
    · skip
      refine lv_tableIn (tgt := 48) hx hb dX12_word__11 (by rw [cn10]; decide) (by rw [cn10]; decide) (by rw [cn10]; rfl) (by decide) ?_
      have bd22 : (0 : Int) ≤ zi902.toInt ∧ zi902.toInt ≤ 0 := r_eq_x cn10 (b_all zi902) bc_0 (by decide) (by decide)
      refine lv_aload_n hx hb dX12_word__48 rfl (lv_at hl 0 rfl) ?_
      obtain ⟨qa24, eq23, kd25⟩ := rd_13029 ok0 kd900
      refine p_get (ci := 12) (v := .ref qa24) (C := RX12) (T := TX12) (N := 69) hx hb hT iw_X12 hown hK hw hW kd900 (by decide) rfl rfl 29 (by decide) eq23 (hT _ tb_1403) (fun _ h9 => h9) dX12_word__49 ?_
      refine lv_bipush (v := 16) hx hb dX12_word__52 (by decide) ?_
      refine lv_aload_n hx hb dX12_word__54 rfl (lv_at hl 0 rfl) ?_
      obtain ⟨zi27, eq26, bd28⟩ := rd_13018 ok0 kd900
      refine p_get (ci := 12) (v := .int zi27) (C := RX12) (T := TX12) (N := 69) hx hb hT iw_X12 hown hK hw hW kd900 (by decide) rfl rfl 18 (by decide) eq26 (hT _ tb_1392) (fun _ h9 => h9) dX12_word__55 ?_
      refine lv_imul hx hb dX12_word__58 (lv_topi (fun zi29 ea30 => ?_))
      have bd31 : (0 : Int) ≤ zi29.toInt ∧ zi29.toInt ≤ 16 := b_imul ea30 bc_16 bd28 (by decide) (by decide) (by decide) (by decide) (by decide)
      refine lv_iload_n hx hb dX12_word__59 rfl (lv_at hl 1 rfl) ?_
      refine lv_iadd hx hb dX12_word__60 (lv_topi (fun zi32 ea33 => ?_))
      have bd34 : (0 : Int) ≤ zi32.toInt ∧ zi32.toInt ≤ 31 := b_iadd ea33 bd31 bd9 (by decide) (by decide) (by decide) (by decide)
      obtain ⟨zi36, eq35, bd37⟩ := rd_75000 ok0 kd25 ((zi32 : Int32).toNatClampNeg)
      refine p_iald (v := zi36) hx hb hK hw hW kd25 (by decide) rfl (hW.len kd25 (n := 32) rfl (by decide)) (vp_b bd34 (by decide) (by decide)) eq35 dX12_word__61 ?_
      rw [hQ]
      exact kz_i hx hb hr hlocks hS rfl hp0 hw ⟨ok0, (Fr.rf)⟩ (Nat.le_of_ble_eq_true rfl) (Nat.le_of_ble_eq_true rfl) dX12_word__62
    by_cases cn11 : zi902 = 1
    · skip
      refine lv_tableIn (tgt := 63) hx hb dX12_word__11 (by rw [cn11]; decide) (by rw [cn11]; decide) (by rw [cn11]; rfl) (by decide) ?_
      have bd38 : (1 : Int) ≤ zi902.toInt ∧ zi902.toInt ≤ 1 := r_eq_x cn11 (b_all zi902) bc_1 (by decide) (by decide)
      refine lv_aload_n hx hb dX12_word__63 rfl (lv_at hl 0 rfl) ?_
      obtain ⟨qa40, eq39, kd41⟩ := rd_13030 ok0 kd900
      refine p_get (ci := 12) (v := .ref qa40) (C := RX12) (T := TX12) (N := 69) hx hb hT iw_X12 hown hK hw hW kd900 (by decide) rfl rfl 30 (by decide) eq39 (hT _ tb_1404) (fun _ h9 => h9) dX12_word__64 ?_
      refine lv_bipush (v := 16) hx hb dX12_word__67 (by decide) ?_
      refine lv_aload_n hx hb dX12_word__69 rfl (lv_at hl 0 rfl) ?_
      obtain ⟨zi43, eq42, bd44⟩ := rd_13018 ok0 kd900
      refine p_get (ci := 12) (v := .int zi43) (C := RX12) (T := TX12) (N := 69) hx hb hT iw_X12 hown hK hw hW kd900 (by decide) rfl rfl 18 (by decide) eq42 (hT _ tb_1392) (fun _ h9 => h9) dX12_word__70 ?_
      refine lv_imul hx hb dX12_word__73 (lv_topi (fun zi45 ea46 => ?_))
      have bd47 : (0 : Int) ≤ zi45.toInt ∧ zi45.toInt ≤ 16 := b_imul ea46 bc_16 bd44 (by decide) (by decide) (by decide) (by decide) (by decide)
      refine lv_iload_n hx hb dX12_word__74 rfl (lv_at hl 1 rfl) ?_
      refine lv_iadd hx hb dX12_word__75 (lv_topi (fun zi48 ea49 => ?_))
      have bd50 : (0 : Int) ≤ zi48.toInt ∧ zi48.toInt ≤ 31 := b_iadd ea49 bd47 bd9 (by decide) (by decide) (by decide) (by decide)
      obtain ⟨zi52, eq51, bd53⟩ := rd_76000 ok0 kd41 ((zi48 : Int32).toNatClampNeg)
      refine p_zald (v := zi52) hx hb hK hw hW kd41 (by decide) rfl (hW.len kd41 (n := 32) rfl (by decide)) (vp_b bd50 (by decide) (by decide)) eq51 dX12_word__76 ?_
      refine lv_if_eq (tgt := 84) hx hb dX12_word__77 (by decide) (fun cn54 => ?_) (fun cn54 => ?_)
      · skip
        have bd55 : (0 : Int) ≤ zi52.toInt ∧ zi52.toInt ≤ 0 := r_eq_x cn54 bd53 bc_0 (by decide) (by decide)
        refine lv_iconst (v := 0) hx hb dX12_word__84 (by decide) ?_
        rw [hQ]
        exact kz_i hx hb hr hlocks hS rfl hp0 hw ⟨ok0, (Fr.rf)⟩ (Nat.le_of_ble_eq_true rfl) (Nat.le_of_ble_eq_true rfl) dX12_word__85
      · skip
        have bd56 : (1 : Int) ≤ zi52.toInt ∧ zi52.toInt ≤ 1 := r_ne_lo cn54 bd53 (toi bc_0) (by decide) (by decide)
        refine lv_iconst (v := 1) hx hb dX12_word__80 (by decide) ?_
        refine lv_goto (tgt := 85) hx hb dX12_word__81 (by decide) ?_
        rw [hQ]
        exact kz_i hx hb hr hlocks hS rfl hp0 hw ⟨ok0, (Fr.rf)⟩ (Nat.le_of_ble_eq_true rfl) (Nat.le_of_ble_eq_true rfl) dX12_word__85
    by_cases cn12 : zi902 = 2
    · skip
      refine lv_tableIn (tgt := 86) hx hb dX12_word__11 (by rw [cn12]; decide) (by rw [cn12]; decide) (by rw [cn12]; rfl) (by decide) ?_
      have bd57 : (2 : Int) ≤ zi902.toInt ∧ zi902.toInt ≤ 2 := r_eq_x cn12 (b_all zi902) bc_2 (by decide) (by decide)
      refine lv_aload_n hx hb dX12_word__86 rfl (lv_at hl 0 rfl) ?_
      refine lv_iload_n hx hb dX12_word__87 rfl (lv_at hl 1 rfl) ?_
      refine kq_i hw hS hA (va_runV (As := [.int zi901]) (rest := []) ⟨hx, hb, hml, hown, hT⟩ (cX12_isTrue_0 l G cy ev K ln Ls hW _ hp0 ok0 qa900 zi901 kd900 (b_wid2 bd9 (by decide) (by decide))) (cwV 1 hT (good_V tb_1746 tb_1743 tb_1745 tb_77 tb_122) rfl rfl rfl (by decide +kernel) ⟨Nat.le_of_ble_eq_true rfl, Nat.le_of_ble_eq_true rfl⟩) (pool_preV (ci := 12) hK hE hS hA hw hW kd900 (by decide) rfl) rfl rfl hl.1 rfl (lv_room (Nat.le_of_ble_eq_true rfl)) dX12_word__88 ⟨Nat.le_of_ble_eq_true rfl, Nat.le_of_ble_eq_true rfl⟩) (fun zi62 hp58 H locs hq61 hw hS => ?_)
      obtain ⟨ok59, F60, bd63⟩ := hq61
      obtain rfl : hp0 = hp58 := (Fr.nil F60).symm
      have hw : PW G cy K ln Ls A hp0 H := hw
      refine lv_if_eq (tgt := 98) hx hb dX12_word__91 (by decide) (fun cn64 => ?_) (fun cn64 => ?_)
      · skip
        have bd65 : (0 : Int) ≤ zi62.toInt ∧ zi62.toInt ≤ 0 := r_eq_x cn64 bd63 bc_0 (by decide) (by decide)
        refine lv_iconst (v := 0) hx hb dX12_word__98 (by decide) ?_
        rw [hQ]
        exact kz_i hx hb hr hlocks hS rfl hp0 hw ⟨ok0, (Fr.rf)⟩ (Nat.le_of_ble_eq_true rfl) (Nat.le_of_ble_eq_true rfl) dX12_word__99
      · skip
        have bd66 : (1 : Int) ≤ zi62.toInt ∧ zi62.toInt ≤ 1 := r_ne_lo cn64 bd63 (toi bc_0) (by decide) (by decide)
        refine lv_iconst (v := 1) hx hb dX12_word__94 (by decide) ?_
        refine lv_goto (tgt := 99) hx hb dX12_word__95 (by decide) ?_
        rw [hQ]
        exact kz_i hx hb hr hlocks hS rfl hp0 hw ⟨ok0, (Fr.rf)⟩ (Nat.le_of_ble_eq_true rfl) (Nat.le_of_ble_eq_true rfl) dX12_word__99
    by_cases cn13 : zi902 = 3
    · skip
      refine lv_tableIn (tgt := 100) hx hb dX12_word__11 (by rw [cn13]; decide) (by rw [cn13]; decide) (by rw [cn13]; rfl) (by decide) ?_
      have bd67 : (3 : Int) ≤ zi902.toInt ∧ zi902.toInt ≤ 3 := r_eq_x cn13 (b_all zi902) bc_3 (by decide) (by decide)
      refine lv_aload_n hx hb dX12_word__100 rfl (lv_at hl 0 rfl) ?_
      obtain ⟨qa69, eq68, kd70⟩ := rd_13049 ok0 kd900
      refine p_get (ci := 12) (v := .ref qa69) (C := RX12) (T := TX12) (N := 69) hx hb hT iw_X12 hown hK hw hW kd900 (by decide) rfl rfl 49 (by decide) eq68 (hT _ tb_1423) (fun _ h9 => h9) dX12_word__101 ?_
      refine lv_iconst (v := 1) hx hb dX12_word__104 (by decide) ?_
      obtain ⟨zi72, eq71⟩ := rd_92000 ok0 kd70 ((1 : Int32).toNatClampNeg)
      refine p_iald (v := zi72) hx hb hK hw hW kd70 (by decide) rfl (hW.len kd70 (n := 40) rfl (by decide)) (vp_b bc_1 (by decide) (by decide)) eq71 dX12_word__105 ?_
      refine lv_iload_n hx hb dX12_word__106 rfl (lv_at hl 1 rfl) ?_
      refine lv_ishr hx hb dX12_word__107 (lv_topi (fun zi73 ea74 => ?_))
      refine lv_iconst (v := 1) hx hb dX12_word__108 (by decide) ?_
      refine lv_iand hx hb dX12_word__109 (lv_topi (fun zi75 ea76 => ?_))
      have bd77 : (0 : Int) ≤ zi75.toInt ∧ zi75.toInt ≤ 1 := b_and_r ea76 bc_1 (by decide) (by decide) (by decide)
      rw [hQ]
      exact kz_i hx hb hr hlocks hS rfl hp0 hw ⟨ok0, (Fr.rf)⟩ (Nat.le_of_ble_eq_true rfl) (Nat.le_of_ble_eq_true rfl) dX12_word__110
    by_cases cn14 : zi902 = 4
    · skip
      refine lv_tableIn (tgt := 111) hx hb dX12_word__11 (by rw [cn14]; decide) (by rw [cn14]; decide) (by rw [cn14]; rfl) (by decide) ?_
      have bd78 : (4 : Int) ≤ zi902.toInt ∧ zi902.toInt ≤ 4 := r_eq_x cn14 (b_all zi902) bc_4 (by decide) (by decide)
      refine lv_aload_n hx hb dX12_word__111 rfl (lv_at hl 0 rfl) ?_
      obtain ⟨qa80, eq79, kd81⟩ := rd_13049 ok0 kd900
      refine p_get (ci := 12) (v := .ref qa80) (C := RX12) (T := TX12) (N := 69) hx hb hT iw_X12 hown hK hw hW kd900 (by decide) rfl rfl 49 (by decide) eq79 (hT _ tb_1423) (fun _ h9 => h9) dX12_word__112 ?_
      refine lv_iconst (v := 2) hx hb dX12_word__115 (by decide) ?_
      obtain ⟨zi83, eq82⟩ := rd_92000 ok0 kd81 ((2 : Int32).toNatClampNeg)
      refine p_iald (v := zi83) hx hb hK hw hW kd81 (by decide) rfl (hW.len kd81 (n := 40) rfl (by decide)) (vp_b bc_2 (by decide) (by decide)) eq82 dX12_word__116 ?_
      refine lv_iload_n hx hb dX12_word__117 rfl (lv_at hl 1 rfl) ?_
      refine lv_ishr hx hb dX12_word__118 (lv_topi (fun zi84 ea85 => ?_))
      refine lv_iconst (v := 1) hx hb dX12_word__119 (by decide) ?_
      refine lv_iand hx hb dX12_word__120 (lv_topi (fun zi86 ea87 => ?_))
      have bd88 : (0 : Int) ≤ zi86.toInt ∧ zi86.toInt ≤ 1 := b_and_r ea87 bc_1 (by decide) (by decide) (by decide)
      rw [hQ]
      exact kz_i hx hb hr hlocks hS rfl hp0 hw ⟨ok0, (Fr.rf)⟩ (Nat.le_of_ble_eq_true rfl) (Nat.le_of_ble_eq_true rfl) dX12_word__121
    by_cases cn15 : zi902 = 5
    · skip
      refine lv_tableIn (tgt := 122) hx hb dX12_word__11 (by rw [cn15]; decide) (by rw [cn15]; decide) (by rw [cn15]; rfl) (by decide) ?_
      have bd89 : (5 : Int) ≤ zi902.toInt ∧ zi902.toInt ≤ 5 := r_eq_x cn15 (b_all zi902) bc_5 (by decide) (by decide)
      refine lv_aload_n hx hb dX12_word__122 rfl (lv_at hl 0 rfl) ?_
      refine lv_iload_n hx hb dX12_word__123 rfl (lv_at hl 1 rfl) ?_
      refine kq_l hw hS hA (va_runV (As := [.int zi901]) (rest := []) ⟨hx, hb, hml, hown, hT⟩ (cX12_holdsOf_0 l G cy ev K ln Ls hW _ hp0 ok0 qa900 zi901 kd900 (b_wid2 bd9 (by decide) (by decide))) (cwV 1 hT (good_V tb_1750 tb_1747 tb_1749 tb_78 tb_122) rfl rfl rfl (by decide +kernel) ⟨Nat.le_of_ble_eq_true rfl, Nat.le_of_ble_eq_true rfl⟩) (pool_preV (ci := 12) hK hE hS hA hw hW kd900 (by decide) rfl) rfl rfl hl.1 rfl (lv_room (Nat.le_of_ble_eq_true rfl)) dX12_word__124 ⟨Nat.le_of_ble_eq_true rfl, Nat.le_of_ble_eq_true rfl⟩) (fun wl94 hp90 H locs hq93 hw hS => ?_)
      obtain ⟨ok91, F92⟩ := hq93
      obtain rfl : hp0 = hp90 := (Fr.nil F92).symm
      have hw : PW G cy K ln Ls A hp0 H := hw
      refine lv_aload_n hx hb dX12_word__127 rfl (lv_at hl 0 rfl) ?_
      refine kq_l hw hS hA (va_runV (As := []) (rest := [.long wl94]) ⟨hx, hb, hml, hown, hT⟩ (cX12_allStates_0 l G cy ev K ln Ls hW _ hp0 ok0 qa900 kd900) (cwV 0 hT (good_V tb_1754 tb_1751 tb_1753 tb_79 tb_122) rfl rfl rfl (by decide +kernel) ⟨Nat.le_of_ble_eq_true rfl, Nat.le_of_ble_eq_true rfl⟩) (pool_preV (ci := 12) hK hE hS hA hw hW kd900 (by decide) rfl) rfl rfl hl.1 rfl (lv_room (Nat.le_of_ble_eq_true rfl)) dX12_word__128 ⟨Nat.le_of_ble_eq_true rfl, Nat.le_of_ble_eq_true rfl⟩) (fun wl99 hp95 H locs hq98 hw hS => ?_)
      obtain ⟨ok96, F97⟩ := hq98
      obtain rfl : hp0 = hp95 := (Fr.nil F97).symm
      have hw : PW G cy K ln Ls A hp0 H := hw
      refine lv_land hx hb dX12_word__131 (lv_topl (fun wl100 _ => ?_))
      refine kq_i hw hS hA (va_runS (As := [.long wl100]) (rest := []) ⟨hx, hb, hml, hown, hT⟩ (cX12_many_0 l G cy ev K ln Ls hW _ hp0 ok0 wl100) (va_cwS 1 hT (good_S tb_1757 tb_1755 tb_1756 tb_122) rfl rfl rfl (by decide +kernel) ⟨Nat.le_of_ble_eq_true rfl, Nat.le_of_ble_eq_true rfl⟩) (PB2.preS hK hE hS hA hw) rfl rfl hl.1 rfl (lv_room (Nat.le_of_ble_eq_true rfl)) dX12_word__132 ⟨Nat.le_of_ble_eq_true rfl, Nat.le_of_ble_eq_true rfl⟩) (fun zi105 hp101 H locs hq104 hw hS => ?_)
      obtain ⟨ok102, F103⟩ := hq104
      obtain rfl : hp0 = hp101 := (Fr.nil F103).symm
      have hw : PW G cy K ln Ls A hp0 H := hw
      rw [hQ]
      exact kz_i hx hb hr hlocks hS rfl hp0 hw ⟨ok0, (Fr.rf)⟩ (Nat.le_of_ble_eq_true rfl) (Nat.le_of_ble_eq_true rfl) dX12_word__135
    have nn16 : zi902.toInt ≠ 0 := fun e => cn10 (Int32.toInt_inj.mp (e.trans (by decide)))
    have nn17 : zi902.toInt ≠ 1 := fun e => cn11 (Int32.toInt_inj.mp (e.trans (by decide)))
    have nn18 : zi902.toInt ≠ 2 := fun e => cn12 (Int32.toInt_inj.mp (e.trans (by decide)))
    have nn19 : zi902.toInt ≠ 3 := fun e => cn13 (Int32.toInt_inj.mp (e.trans (by decide)))
    have nn20 : zi902.toInt ≠ 4 := fun e => cn14 (Int32.toInt_inj.mp (e.trans (by decide)))
    have nn21 : zi902.toInt ≠ 5 := fun e => cn15 (Int32.toInt_inj.mp (e.trans (by decide)))
    refine lv_tableOut (tgt := 136) hx hb dX12_word__11 (by have := (b_all zi902); omega) (by decide) ?_
    refine lv_iconst (v := (-1)) hx hb dX12_word__136 (by decide) ?_
    rw [hQ]
    exact kz_i hx hb hr hlocks hS rfl hp0 hw ⟨ok0, (Fr.rf)⟩ (Nat.le_of_ble_eq_true rfl) (Nat.le_of_ble_eq_true rfl) dX12_word__137

set_option maxRecDepth 100000 in
set_option maxHeartbeats 4000000 in
theorem cX12_witness_0 (l : Launch) (G : va_G) (cy : Nat → ClassId) (ev : Ew) (K ln : Nat → Nat) (Ls : List Nat) (hW : SW K ln Ls) (sz : Nat) (hp0 : Nat → Nat → Value) (ok0 : Ok K hp0) (qa900 : Nat) (zi901 : Int32) (zi902 : Int32) (kd900 : K qa900 = 13) : Met l yX12_witness (WS yX12_witness cX12_witness 3 (some .int)) { frames := 2, cells := 0, slots := 0, locals := 48 } (PB2 [.ref qa900, .int zi901, .int zi902] sz G cy ev (va_pl Ls (cellOf cy K ln hp0))) (QBi (S := (Nat → Nat → Value)) (fun (r : Int32) (u : (Nat → Nat → Value)) => Ok K u ∧ Fr [93000] K hp0 u ∧ ((-1 : Int) ≤ r.toInt ∧ r.toInt ≤ 16)) G (fun u => va_pl Ls (cellOf cy K ln u)) (va_A (va_pl Ls (cellOf cy K ln hp0)) sz)) 0 0 (va_A (va_pl Ls (cellOf cy K ln hp0)) sz) := by
  refine met_of2 (y := yX12_witness) (L := 3) (av := [.ref qa900, .int zi901, .int zi902]) (Qc := fun A => QBi (S := (Nat → Nat → Value)) (fun (r : Int32) (u : (Nat → Nat → Value)) => Ok K u ∧ Fr [93000] K hp0 u ∧ ((-1 : Int) ≤ r.toInt ∧ r.toInt ≤ 16)) G (fun u => va_pl Ls (cellOf cy K ln u)) A) (plainFor_of_name (by decide)) (Nat.le_of_ble_eq_true rfl) ?_
  intro p e s m below meth c hsz hx hb hr hml hown hT hlocks hin hK A hA hE hw hS ls hl
  have hw : PW G cy K ln Ls A hp0 s.heap := hw
  have hown : s.vm.findClass "LieClockModel" = some m.cls := hown
  have hl : lv_has ls 3 [(0, .ref qa900), (1, .int zi901), (2, .int zi902)] := hl
  obtain ⟨Q, hQ⟩ : ∃ Q : State → Prop, Q = MQ below (QBi (S := (Nat → Nat → Value)) (fun (r : Int32) (u : (Nat → Nat → Value)) => Ok K u ∧ Fr [93000] K hp0 u ∧ ((-1 : Int) ≤ r.toInt ∧ r.toInt ≤ 16)) G (fun u => va_pl Ls (cellOf cy K ln u)) A) ([.ref qa900, .int zi901, .int zi902] : List Value).toArray s 0 0 A := ⟨_, rfl⟩
  rw [← hQ]
  refine lv_aload_n hx hb dX12_witness_0 rfl (lv_at hl 0 rfl) ?_
  refine lv_iload_n hx hb dX12_witness_1 rfl (lv_at hl 1 rfl) ?_
  refine kq_i hw hS hA (va_runV (As := [.int zi901]) (rest := []) ⟨hx, hb, hml, hown, hT⟩ (cX12_isWitness_0 l G cy ev K ln Ls hW _ hp0 ok0 qa900 zi901 kd900) (cwV 1 hT (good_V tb_1765 tb_1762 tb_1764 tb_80 tb_122) rfl rfl rfl (by decide +kernel) ⟨Nat.le_of_ble_eq_true rfl, Nat.le_of_ble_eq_true rfl⟩) (pool_preV (ci := 12) hK hE hS hA hw hW kd900 (by decide) rfl) rfl rfl hl.1 rfl (lv_room (Nat.le_of_ble_eq_true rfl)) dX12_witness_2 ⟨Nat.le_of_ble_eq_true rfl, Nat.le_of_ble_eq_true rfl⟩) (fun zi5 hp1 H locs hq4 hw hS => ?_)
  obtain ⟨ok2, F3, bd6, hc7⟩ := hq4
  obtain rfl : hp0 = hp1 := (Fr.nil F3).symm
  have hw : PW G cy K ln Ls A hp0 H := hw
  rcases b01 bd6 with cn8 | cn8
  · skip
    subst cn8
    refine lv_if_ne (tgt := 10) hx hb dX12_witness_5 (by decide) (fun c => absurd (d_eq bc_0 bc_0) c) (fun _ => ?_)
    refine lv_iconst (v := (-1)) hx hb dX12_witness_8 (by decide) ?_
    rw [hQ]
    exact kz_i hx hb hr hlocks hS rfl hp0 hw ⟨ok0, (Fr.rf), (b_wid2 bc_m1 (by decide) (by decide))⟩ (Nat.le_of_ble_eq_true rfl) (Nat.le_of_ble_eq_true rfl) dX12_witness_9
  · skip
    subst cn8
    have bd9 : (0 : Int) ≤ zi901.toInt ∧ zi901.toInt ≤ 5 := b_meet (b_all zi901) (hc7 rfl) (by decide) (by decide)
    refine lv_if_ne (tgt := 10) hx hb dX12_witness_5 (by decide) (fun _ => ?_) (fun c => absurd c (d_ne bc_1 bc_0 (by decide)))
    refine lv_aload_n hx hb dX12_witness_10 rfl (lv_at hl 0 rfl) ?_
    refine kq_v hw hS hA (va_runV (As := []) (rest := []) ⟨hx, hb, hml, hown, hT⟩ (cX12_copies_0 l G cy ev K ln Ls hW _ hp0 ok0 qa900 kd900) (cwV 0 hT (good_V tb_1769 tb_1766 tb_1768 tb_81 tb_122) rfl rfl rfl (by decide +kernel) ⟨Nat.le_of_ble_eq_true rfl, Nat.le_of_ble_eq_true rfl⟩) (pool_preV (ci := 12) hK hE hS hA hw hW kd900 (by decide) rfl) rfl rfl hl.1 rfl (lv_room (Nat.le_of_ble_eq_true rfl)) dX12_witness_11 ⟨Nat.le_of_ble_eq_true rfl, Nat.le_of_ble_eq_true rfl⟩) (fun hp10 H locs hq13 hw hS => ?_)
    obtain ⟨ok11, F12⟩ := hq13
    have hw : PW G cy K ln Ls A hp10 H := hw
    refine lv_iload_n hx hb dX12_witness_14 rfl (lv_at hl 2 rfl) ?_
    by_cases cn15 : zi902 = 0
    · skip
      refine lv_tableIn (tgt := 44) hx hb dX12_witness_15 (by rw [cn15]; decide) (by rw [cn15]; decide) (by rw [cn15]; rfl) (by decide) ?_
      have bd23 : (0 : Int) ≤ zi902.toInt ∧ zi902.toInt ≤ 0 := r_eq_x cn15 (b_all zi902) bc_0 (by decide) (by decide)
      refine lv_aload_n hx hb dX12_witness_44 rfl (lv_at hl 0 rfl) ?_
      obtain ⟨qa25, eq24, kd26⟩ := rd_13050 ok11 kd900
      refine p_get (ci := 12) (v := .ref qa25) (C := RX12) (T := TX12) (N := 69) hx hb hT iw_X12 hown hK hw hW kd900 (by decide) rfl rfl 50 (by decide) eq24 (hT _ tb_1424) (fun _ h9 => h9) dX12_witness_45 ?_
      refine lv_iconst (v := 1) hx hb dX12_witness_48 (by decide) ?_
      obtain ⟨zi28, eq27⟩ := rd_93000 ok11 kd26 ((1 : Int32).toNatClampNeg)
      refine p_iald (v := zi28) hx hb hK hw hW kd26 (by decide) rfl (hW.len kd26 (n := 40) rfl (by decide)) (vp_b bc_1 (by decide) (by decide)) eq27 dX12_witness_49 ?_
      refine lv_aload_n hx hb dX12_witness_50 rfl (lv_at hl 0 rfl) ?_
      refine lv_iload_n hx hb dX12_witness_51 rfl (lv_at hl 1 rfl) ?_
      refine kq_i hw hS hA (va_runV (As := [.int zi901]) (rest := [.int zi28]) ⟨hx, hb, hml, hown, hT⟩ (cX12_wordsOf_0 l G cy ev K ln Ls hW _ hp10 ok11 qa900 zi901 kd900) (cwV 1 hT (good_V tb_1773 tb_1770 tb_1772 tb_82 tb_122) rfl rfl rfl (by decide +kernel) ⟨Nat.le_of_ble_eq_true rfl, Nat.le_of_ble_eq_true rfl⟩) (pool_preV (ci := 12) hK hE hS hA hw hW kd900 (by decide) rfl) rfl rfl hl.1 rfl (lv_room (Nat.le_of_ble_eq_true rfl)) dX12_witness_52 ⟨Nat.le_of_ble_eq_true rfl, Nat.le_of_ble_eq_true rfl⟩) (fun zi33 hp29 H locs hq32 hw hS => ?_)
      obtain ⟨ok30, F31⟩ := hq32
      obtain rfl : hp10 = hp29 := (Fr.nil F31).symm
      have hw : PW G cy K ln Ls A hp10 H := hw
      refine lv_iand hx hb dX12_witness_55 (lv_topi (fun zi34 ea35 => ?_))
      refine kq_i hw hS hA (va_runS (As := [.int zi34]) (rest := []) ⟨hx, hb, hml, hown, hT⟩ (cX12_bits_0 l G cy ev K ln Ls hW _ hp10 ok11 zi34) (va_cwS 1 hT (good_S tb_1776 tb_1774 tb_1775 tb_122) rfl rfl rfl (by decide +kernel) ⟨Nat.le_of_ble_eq_true rfl, Nat.le_of_ble_eq_true rfl⟩) (PB2.preS hK hE hS hA hw) rfl rfl hl.1 rfl (lv_room (Nat.le_of_ble_eq_true rfl)) dX12_witness_56 ⟨Nat.le_of_ble_eq_true rfl, Nat.le_of_ble_eq_true rfl⟩) (fun zi40 hp36 H locs hq39 hw hS => ?_)
      obtain ⟨ok37, F38, bd41, ef42, xq43⟩ := hq39
      obtain rfl : hp10 = hp36 := (Fr.nil F38).symm
      have hw : PW G cy K ln Ls A hp10 H := hw
      rw [hQ]
      exact kz_i hx hb hr hlocks hS rfl hp10 hw ⟨ok11, (Fr.tr (Fr.rf) F12 (by decide)), (b_wid2 bd41 (by decide) (by decide))⟩ (Nat.le_of_ble_eq_true rfl) (Nat.le_of_ble_eq_true rfl) dX12_witness_59
    by_cases cn16 : zi902 = 1
    · skip
      refine lv_tableIn (tgt := 60) hx hb dX12_witness_15 (by rw [cn16]; decide) (by rw [cn16]; decide) (by rw [cn16]; rfl) (by decide) ?_
      have bd44 : (1 : Int) ≤ zi902.toInt ∧ zi902.toInt ≤ 1 := r_eq_x cn16 (b_all zi902) bc_1 (by decide) (by decide)
      refine lv_aload_n hx hb dX12_witness_60 rfl (lv_at hl 0 rfl) ?_
      obtain ⟨qa46, eq45, kd47⟩ := rd_13050 ok11 kd900
      refine p_get (ci := 12) (v := .ref qa46) (C := RX12) (T := TX12) (N := 69) hx hb hT iw_X12 hown hK hw hW kd900 (by decide) rfl rfl 50 (by decide) eq45 (hT _ tb_1424) (fun _ h9 => h9) dX12_witness_61 ?_
      refine lv_iconst (v := 2) hx hb dX12_witness_64 (by decide) ?_
      obtain ⟨zi49, eq48⟩ := rd_93000 ok11 kd47 ((2 : Int32).toNatClampNeg)
      refine p_iald (v := zi49) hx hb hK hw hW kd47 (by decide) rfl (hW.len kd47 (n := 40) rfl (by decide)) (vp_b bc_2 (by decide) (by decide)) eq48 dX12_witness_65 ?_
      refine lv_aload_n hx hb dX12_witness_66 rfl (lv_at hl 0 rfl) ?_
      refine lv_iload_n hx hb dX12_witness_67 rfl (lv_at hl 1 rfl) ?_
      refine kq_i hw hS hA (va_runV (As := [.int zi901]) (rest := [.int zi49]) ⟨hx, hb, hml, hown, hT⟩ (cX12_wordsOf_0 l G cy ev K ln Ls hW _ hp10 ok11 qa900 zi901 kd900) (cwV 1 hT (good_V tb_1773 tb_1770 tb_1772 tb_82 tb_122) rfl rfl rfl (by decide +kernel) ⟨Nat.le_of_ble_eq_true rfl, Nat.le_of_ble_eq_true rfl⟩) (pool_preV (ci := 12) hK hE hS hA hw hW kd900 (by decide) rfl) rfl rfl hl.1 rfl (lv_room (Nat.le_of_ble_eq_true rfl)) dX12_witness_68 ⟨Nat.le_of_ble_eq_true rfl, Nat.le_of_ble_eq_true rfl⟩) (fun zi54 hp50 H locs hq53 hw hS => ?_)
      obtain ⟨ok51, F52⟩ := hq53
      obtain rfl : hp10 = hp50 := (Fr.nil F52).symm
      have hw : PW G cy K ln Ls A hp10 H := hw
      refine lv_iand hx hb dX12_witness_71 (lv_topi (fun zi55 ea56 => ?_))
      refine kq_i hw hS hA (va_runS (As := [.int zi55]) (rest := []) ⟨hx, hb, hml, hown, hT⟩ (cX12_bits_0 l G cy ev K ln Ls hW _ hp10 ok11 zi55) (va_cwS 1 hT (good_S tb_1776 tb_1774 tb_1775 tb_122) rfl rfl rfl (by decide +kernel) ⟨Nat.le_of_ble_eq_true rfl, Nat.le_of_ble_eq_true rfl⟩) (PB2.preS hK hE hS hA hw) rfl rfl hl.1 rfl (lv_room (Nat.le_of_ble_eq_true rfl)) dX12_witness_72 ⟨Nat.le_of_ble_eq_true rfl, Nat.le_of_ble_eq_true rfl⟩) (fun zi61 hp57 H locs hq60 hw hS => ?_)
      obtain ⟨ok58, F59, bd62, ef63, xq64⟩ := hq60
      obtain rfl : hp10 = hp57 := (Fr.nil F59).symm
      have hw : PW G cy K ln Ls A hp10 H := hw
      rw [hQ]
      exact kz_i hx hb hr hlocks hS rfl hp10 hw ⟨ok11, (Fr.tr (Fr.rf) F12 (by decide)), (b_wid2 bd62 (by decide) (by decide))⟩ (Nat.le_of_ble_eq_true rfl) (Nat.le_of_ble_eq_true rfl) dX12_witness_75
    by_cases cn17 : zi902 = 2
    · skip
      refine lv_tableIn (tgt := 76) hx hb dX12_witness_15 (by rw [cn17]; decide) (by rw [cn17]; decide) (by rw [cn17]; rfl) (by decide) ?_
      have bd65 : (2 : Int) ≤ zi902.toInt ∧ zi902.toInt ≤ 2 := r_eq_x cn17 (b_all zi902) bc_2 (by decide) (by decide)
      refine lv_aload_n hx hb dX12_witness_76 rfl (lv_at hl 0 rfl) ?_
      refine lv_iload_n hx hb dX12_witness_77 rfl (lv_at hl 1 rfl) ?_
      refine kq_i hw hS hA (va_runV (As := [.int zi901]) (rest := []) ⟨hx, hb, hml, hown, hT⟩ (cX12_wordsOf_0 l G cy ev K ln Ls hW _ hp10 ok11 qa900 zi901 kd900) (cwV 1 hT (good_V tb_1773 tb_1770 tb_1772 tb_82 tb_122) rfl rfl rfl (by decide +kernel) ⟨Nat.le_of_ble_eq_true rfl, Nat.le_of_ble_eq_true rfl⟩) (pool_preV (ci := 12) hK hE hS hA hw hW kd900 (by decide) rfl) rfl rfl hl.1 rfl (lv_room (Nat.le_of_ble_eq_true rfl)) dX12_witness_78 ⟨Nat.le_of_ble_eq_true rfl, Nat.le_of_ble_eq_true rfl⟩) (fun zi70 hp66 H locs hq69 hw hS => ?_)
      obtain ⟨ok67, F68⟩ := hq69
      obtain rfl : hp10 = hp66 := (Fr.nil F68).symm
      have hw : PW G cy K ln Ls A hp10 H := hw
      refine kq_i hw hS hA (va_runS (As := [.int zi70]) (rest := []) ⟨hx, hb, hml, hown, hT⟩ (cX12_bits_0 l G cy ev K ln Ls hW _ hp10 ok11 zi70) (va_cwS 1 hT (good_S tb_1776 tb_1774 tb_1775 tb_122) rfl rfl rfl (by decide +kernel) ⟨Nat.le_of_ble_eq_true rfl, Nat.le_of_ble_eq_true rfl⟩) (PB2.preS hK hE hS hA hw) rfl rfl hl.1 rfl (lv_room (Nat.le_of_ble_eq_true rfl)) dX12_witness_81 ⟨Nat.le_of_ble_eq_true rfl, Nat.le_of_ble_eq_true rfl⟩) (fun zi75 hp71 H locs hq74 hw hS => ?_)
      obtain ⟨ok72, F73, bd76, ef77, xq78⟩ := hq74
      obtain rfl : hp10 = hp71 := (Fr.nil F73).symm
      have hw : PW G cy K ln Ls A hp10 H := hw
      rw [hQ]
      exact kz_i hx hb hr hlocks hS rfl hp10 hw ⟨ok11, (Fr.tr (Fr.rf) F12 (by decide)), (b_wid2 bd76 (by decide) (by decide))⟩ (Nat.le_of_ble_eq_true rfl) (Nat.le_of_ble_eq_true rfl) dX12_witness_84
    by_cases cn18 : zi902 = 3
    · skip
      refine lv_tableIn (tgt := 85) hx hb dX12_witness_15 (by rw [cn18]; decide) (by rw [cn18]; decide) (by rw [cn18]; rfl) (by decide) ?_
      have bd79 : (3 : Int) ≤ zi902.toInt ∧ zi902.toInt ≤ 3 := r_eq_x cn18 (b_all zi902) bc_3 (by decide) (by decide)
      refine lv_aload_n hx hb dX12_witness_85 rfl (lv_at hl 0 rfl) ?_
      refine lv_iload_n hx hb dX12_witness_86 rfl (lv_at hl 1 rfl) ?_
      refine kq_i hw hS hA (va_runV (As := [.int zi901]) (rest := []) ⟨hx, hb, hml, hown, hT⟩ (cX12_stand_0 l G cy ev K ln Ls hW _ hp10 ok11 qa900 zi901 kd900 (b_wid2 bd9 (by decide) (by decide))) (cwV 1 hT (good_V tb_1780 tb_1777 tb_1779 tb_83 tb_122) rfl rfl rfl (by decide +kernel) ⟨Nat.le_of_ble_eq_true rfl, Nat.le_of_ble_eq_true rfl⟩) (pool_preV (ci := 12) hK hE hS hA hw hW kd900 (by decide) rfl) rfl rfl hl.1 rfl (lv_room (Nat.le_of_ble_eq_true rfl)) dX12_witness_87 ⟨Nat.le_of_ble_eq_true rfl, Nat.le_of_ble_eq_true rfl⟩) (fun zi84 hp80 H locs hq83 hw hS => ?_)
      obtain ⟨ok81, F82, bd85⟩ := hq83
      obtain rfl : hp10 = hp80 := (Fr.nil F82).symm
      have hw : PW G cy K ln Ls A hp10 H := hw
      refine lv_if_eq (tgt := 97) hx hb dX12_witness_90 (by decide) (fun cn86 => ?_) (fun cn86 => ?_)
      · skip
        have bd87 : (0 : Int) ≤ zi84.toInt ∧ zi84.toInt ≤ 0 := r_eq_x cn86 bd85 bc_0 (by decide) (by decide)
        refine lv_iconst (v := 0) hx hb dX12_witness_97 (by decide) ?_
        rw [hQ]
        exact kz_i hx hb hr hlocks hS rfl hp10 hw ⟨ok11, (Fr.tr (Fr.rf) F12 (by decide)), (b_wid2 bc_0 (by decide) (by decide))⟩ (Nat.le_of_ble_eq_true rfl) (Nat.le_of_ble_eq_true rfl) dX12_witness_98
      · skip
        have bd88 : (1 : Int) ≤ zi84.toInt ∧ zi84.toInt ≤ 1 := r_ne_lo cn86 bd85 (toi bc_0) (by decide) (by decide)
        refine lv_iconst (v := 1) hx hb dX12_witness_93 (by decide) ?_
        refine lv_goto (tgt := 98) hx hb dX12_witness_94 (by decide) ?_
        rw [hQ]
        exact kz_i hx hb hr hlocks hS rfl hp10 hw ⟨ok11, (Fr.tr (Fr.rf) F12 (by decide)), (b_wid2 bc_1 (by decide) (by decide))⟩ (Nat.le_of_ble_eq_true rfl) (Nat.le_of_ble_eq_true rfl) dX12_witness_98
    have nn19 : zi902.toInt ≠ 0 := fun e => cn15 (Int32.toInt_inj.mp (e.trans (by decide)))
    have nn20 : zi902.toInt ≠ 1 := fun e => cn16 (Int32.toInt_inj.mp (e.trans (by decide)))
    have nn21 : zi902.toInt ≠ 2 := fun e => cn17 (Int32.toInt_inj.mp (e.trans (by decide)))
    have nn22 : zi902.toInt ≠ 3 := fun e => cn18 (Int32.toInt_inj.mp (e.trans (by decide)))
    refine lv_tableOut (tgt := 99) hx hb dX12_witness_15 (by have := (b_all zi902); omega) (by decide) ?_
    refine lv_iconst (v := (-1)) hx hb dX12_witness_99 (by decide) ?_
    rw [hQ]
    exact kz_i hx hb hr hlocks hS rfl hp10 hw ⟨ok11, (Fr.tr (Fr.rf) F12 (by decide)), (b_wid2 bc_m1 (by decide) (by decide))⟩ (Nat.le_of_ble_eq_true rfl) (Nat.le_of_ble_eq_true rfl) dX12_witness_100

set_option maxRecDepth 100000 in
set_option maxHeartbeats 4000000 in
theorem cX12_share_0 (l : Launch) (G : va_G) (cy : Nat → ClassId) (ev : Ew) (K ln : Nat → Nat) (Ls : List Nat) (hW : SW K ln Ls) (sz : Nat) (hp0 : Nat → Nat → Value) (ok0 : Ok K hp0) (qa900 : Nat) (zi901 : Int32) (kd900 : K qa900 = 13) : Met l yX12_share (WS yX12_share cX12_share 2 (some .int)) { frames := 2, cells := 0, slots := 0, locals := 43 } (PB2 [.ref qa900, .int zi901] sz G cy ev (va_pl Ls (cellOf cy K ln hp0))) (QBi (S := (Nat → Nat → Value)) (fun (r : Int32) (u : (Nat → Nat → Value)) => Ok K u ∧ Fr [] K hp0 u) G (fun u => va_pl Ls (cellOf cy K ln u)) (va_A (va_pl Ls (cellOf cy K ln hp0)) sz)) 0 0 (va_A (va_pl Ls (cellOf cy K ln hp0)) sz) := by
  refine met_of2 (y := yX12_share) (L := 2) (av := [.ref qa900, .int zi901]) (Qc := fun A => QBi (S := (Nat → Nat → Value)) (fun (r : Int32) (u : (Nat → Nat → Value)) => Ok K u ∧ Fr [] K hp0 u) G (fun u => va_pl Ls (cellOf cy K ln u)) A) (plainFor_of_name (by decide)) (Nat.le_of_ble_eq_true rfl) ?_
  intro p e s m below meth c hsz hx hb hr hml hown hT hlocks hin hK A hA hE hw hS ls hl
  have hw : PW G cy K ln Ls A hp0 s.heap := hw
  have hown : s.vm.findClass "LieClockModel" = some m.cls := hown
  have hl : lv_has ls 2 [(0, .ref qa900), (1, .int zi901)] := hl
  obtain ⟨Q, hQ⟩ : ∃ Q : State → Prop, Q = MQ below (QBi (S := (Nat → Nat → Value)) (fun (r : Int32) (u : (Nat → Nat → Value)) => Ok K u ∧ Fr [] K hp0 u) G (fun u => va_pl Ls (cellOf cy K ln u)) A) ([.ref qa900, .int zi901] : List Value).toArray s 0 0 A := ⟨_, rfl⟩
  rw [← hQ]
  refine lv_aload_n hx hb dX12_share_0 rfl (lv_at hl 0 rfl) ?_
  refine lv_iload_n hx hb dX12_share_1 rfl (lv_at hl 1 rfl) ?_
  refine kq_i hw hS hA (va_runV (As := [.int zi901]) (rest := []) ⟨hx, hb, hml, hown, hT⟩ (cX12_isWitness_0 l G cy ev K ln Ls hW _ hp0 ok0 qa900 zi901 kd900) (cwV 1 hT (good_V tb_1765 tb_1762 tb_1764 tb_80 tb_122) rfl rfl rfl (by decide +kernel) ⟨Nat.le_of_ble_eq_true rfl, Nat.le_of_ble_eq_true rfl⟩) (pool_preV (ci := 12) hK hE hS hA hw hW kd900 (by decide) rfl) rfl rfl hl.1 rfl (lv_room (Nat.le_of_ble_eq_true rfl)) dX12_share_2 ⟨Nat.le_of_ble_eq_true rfl, Nat.le_of_ble_eq_true rfl⟩) (fun zi5 hp1 H locs hq4 hw hS => ?_)
  obtain ⟨ok2, F3, bd6, hc7⟩ := hq4
  obtain rfl : hp0 = hp1 := (Fr.nil F3).symm
  have hw : PW G cy K ln Ls A hp0 H := hw
  rcases b01 bd6 with cn8 | cn8
  · skip
    subst cn8
    refine lv_if_eq (tgt := 20) hx hb dX12_share_5 (by decide) (fun _ => ?_) (fun c => absurd (d_eq bc_0 bc_0) c)
    refine lv_ldcw (v := (-1000000)) hx hb hown (hT _ tb_1789) dX12_share_20 ?_
    rw [hQ]
    exact kz_i hx hb hr hlocks hS rfl hp0 hw ⟨ok0, (Fr.rf)⟩ (Nat.le_of_ble_eq_true rfl) (Nat.le_of_ble_eq_true rfl) dX12_share_23
  · skip
    subst cn8
    have bd9 : (0 : Int) ≤ zi901.toInt ∧ zi901.toInt ≤ 5 := b_meet (b_all zi901) (hc7 rfl) (by decide) (by decide)
    refine lv_if_eq (tgt := 20) hx hb dX12_share_5 (by decide) (fun c => absurd c (d_ne bc_1 bc_0 (by decide))) (fun _ => ?_)
    refine lv_aload_n hx hb dX12_share_8 rfl (lv_at hl 0 rfl) ?_
    obtain ⟨qa11, eq10, kd12⟩ := rd_13049 ok0 kd900
    refine p_get (ci := 12) (v := .ref qa11) (C := RX12) (T := TX12) (N := 69) hx hb hT iw_X12 hown hK hw hW kd900 (by decide) rfl rfl 49 (by decide) eq10 (hT _ tb_1423) (fun _ h9 => h9) dX12_share_9 ?_
    refine lv_bipush (v := 20) hx hb dX12_share_12 (by decide) ?_
    refine lv_iload_n hx hb dX12_share_14 rfl (lv_at hl 1 rfl) ?_
    refine lv_iadd hx hb dX12_share_15 (lv_topi (fun zi13 ea14 => ?_))
    have bd15 : (20 : Int) ≤ zi13.toInt ∧ zi13.toInt ≤ 25 := b_iadd ea14 bc_20 bd9 (by decide) (by decide) (by decide) (by decide)
    obtain ⟨zi17, eq16⟩ := rd_92000 ok0 kd12 ((zi13 : Int32).toNatClampNeg)
    refine p_iald (v := zi17) hx hb hK hw hW kd12 (by decide) rfl (hW.len kd12 (n := 40) rfl (by decide)) (vp_b bd15 (by decide) (by decide)) eq16 dX12_share_16 ?_
    refine lv_goto (tgt := 23) hx hb dX12_share_17 (by decide) ?_
    rw [hQ]
    exact kz_i hx hb hr hlocks hS rfl hp0 hw ⟨ok0, (Fr.rf)⟩ (Nat.le_of_ble_eq_true rfl) (Nat.le_of_ble_eq_true rfl) dX12_share_23
