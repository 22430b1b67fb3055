set_option maxRecDepth 100000 in
set_option maxHeartbeats 4000000 in
theorem cX0_keepPath_0 (l : Launch) (G : va_G) (cy : Nat → ClassId) (ev : Ew) (K ln : Nat → Nat) (Ls : List Nat) (hW : SW K ln Ls) (sz : Nat) (hp0 : Nat → Nat → Value) (ok0 : Ok K hp0) (qa900 : Nat) (qa901 : Nat) (zi902 : Int32) (zi903 : Int32) (zi904 : Int32) (gn : Nat) (kd900 : K qa900 = 1) (kd901 : K qa901 = 11) (bd904 : ((1 : Int) ≤ zi904.toInt ∧ zi904.toInt ≤ 4)) (pdNS : NSx K ln hp0 gn) : Met l yX0_keepPath (WS yX0_keepPath cX0_keepPath 8 none) { frames := 0, cells := 0, slots := 0, locals := 0 } (PB2 [.ref qa900, .ref qa901, .int zi902, .int zi903, .int zi904] sz G cy ev (va_pl Ls (cellOf cy K ln hp0))) (QBv (S := (Nat → Nat → Value)) (fun u : (Nat → Nat → Value) => Ok K u ∧ Fr [1003, 1004, 20000] K hp0 u) G (fun u => va_pl Ls (cellOf cy K ln u)) (va_A (va_pl Ls (cellOf cy K ln hp0)) sz)) 0 0 (va_A (va_pl Ls (cellOf cy K ln hp0)) sz) := by
  refine met_of2 (y := yX0_keepPath) (L := 8) (av := [.ref qa900, .ref qa901, .int zi902, .int zi903, .int zi904]) (Qc := fun A => QBv (S := (Nat → Nat → Value)) (fun u : (Nat → Nat → Value) => Ok K u ∧ Fr [1003, 1004, 20000] K hp0 u) G (fun u => va_pl Ls (cellOf cy K ln u)) A) (plainFor_of_name (by decide)) (Nat.le_of_ble_eq_true rfl) ?_
  intro p e s m below meth c hsz hx hb hr hml hown hT hlocks hin hK A hA hE hw hS ls hl
  have hw : PW G cy K ln Ls A hp0 s.heap := hw
  have hown : s.vm.findClass "LieClock$Ahead" = some m.cls := hown
  have hl : lv_has ls 8 [(0, .ref qa900), (1, .ref qa901), (2, .int zi902), (3, .int zi903), (4, .int zi904)] := hl
  obtain ⟨Q, hQ⟩ : ∃ Q : State → Prop, Q = MQ below (QBv (S := (Nat → Nat → Value)) (fun u : (Nat → Nat → Value) => Ok K u ∧ Fr [1003, 1004, 20000] K hp0 u) G (fun u => va_pl Ls (cellOf cy K ln u)) A) ([.ref qa900, .ref qa901, .int zi902, .int zi903, .int zi904] : List Value).toArray s 0 0 A := ⟨_, rfl⟩
  rw [← hQ]
  have hgn := NSx.bd pdNS
  refine lv_iload_n hx hb dX0_keepPath_0 rfl (lv_at hl 2 rfl) ?_
  refine lv_istore (lv' := [(5, .int zi902), (0, .ref qa900), (1, .ref qa901), (2, .int zi902), (3, .int zi903), (4, .int zi904)]) hx hb dX0_keepPath_1 hl (by decide) rfl (fun ls hl => ?_)
  refine lv_iload_n hx hb dX0_keepPath_3 rfl (lv_at hl 4 rfl) ?_
  refine lv_istore (lv' := [(6, .int zi903), (5, .int zi902), (0, .ref qa900), (1, .ref qa901), (2, .int zi902), (3, .int zi903), (4, .int zi904)]) hx hb dX0_keepPath_4 hl (by decide) rfl (fun ls hl => ?_)
  refine lv_aload_n hx hb dX0_keepPath_6 rfl (lv_at hl 2 rfl) ?_
  refine lv_iload hx hb dX0_keepPath_7 (lv_at hl 6 rfl) ?_
  refine p_put (ci := 0) (v := .int zi904) (ty := .int) (C := RX0) (T := TX0) (N := 8) hx hb hT iw_X0 tyX0 tyX0_ok nmX0 hown hK hw hS hW kd900 (by decide) rfl rfl 3 (by decide) (hT _ tb_595) (fun _ h9 => h9) rfl (by decide +kernel) rfl rfl dX0_keepPath_9 (fun hp1 eh2 H locs hw hS => ?_)
  have ok3 := wr_1003 bd904 (by decide) (by decide) ok0 kd900 eh2
  refine lv_iload hx hb dX0_keepPath_12 (lv_at hl 6 rfl) ?_
  refine lv_iconst (v := 1) hx hb dX0_keepPath_14 (by decide) ?_
  refine lv_isub hx hb dX0_keepPath_15 (lv_topi (fun zi4 ea5 => ?_))
  have bd6 : (0 : Int) ≤ zi4.toInt ∧ zi4.toInt ≤ 3 := b_isub ea5 bd904 bc_1 (by decide) (by decide) (by decide) (by decide)
  have qe7 : zi4.toInt = (zi904 : Int32).toInt - (1 : Int32).toInt := e_isub ea5 bd904 bc_1 (by decide) (by decide)
  have qe8 : zi4.toInt = zi904.toInt - 1 := by have ha : (1 : Int32).toInt = 1 := (by decide); rw [ha] at qe7; exact qe7
  refine lv_istore (lv' := [(7, .int zi4), (6, .int zi903), (5, .int zi902), (0, .ref qa900), (1, .ref qa901), (2, .int zi902), (3, .int zi903), (4, .int zi904)]) hx hb dX0_keepPath_16 hl (by decide) rfl (fun ls hl => ?_)
  have lp489 : ∀ (n487 : Nat) (hp299 : Nat → Nat → Value) (zi296 : Int32) (zi297 : Int32) (zi298 : Int32) (H : Heap) (locs : List Loc) (ls : Array Slot), zi298.toInt - (-1) < (n487 : Int) → Ok K hp299 → Fr [1004, 20000] K hp1 hp299 → ((-1 : Int) ≤ zi298.toInt ∧ zi298.toInt ≤ 3) → lv_has ls 8 [(0, .ref qa900), (1, .ref qa901), (5, .int zi296), (6, .int zi297), (7, .int zi298)] → PW G cy K ln Ls A hp299 H → va_S A s.heap H locs → W p l e ({ frames := 0, cells := 0, slots := 0, locals := 0 } : Room) s m ([.ref qa900, .ref qa901, .int zi902, .int zi903, .int zi904] : List Value).toArray below meth c H locs 0 0 Q (F0 m 18 ls []) := by
    intro n487
    induction n487 with
    | zero =>
      intro hp299 zi296 zi297 zi298 H locs ls hm490 ok301 F300 bd302 hl hw hS
      exact absurd hm490 (by have := bd302; omega)
    | succ n487 ih488 =>
      intro hp299 zi296 zi297 zi298 H locs ls hm490 ok301 F300 bd302 hl hw hS
      refine lv_iload hx hb dX0_keepPath_18 (lv_at hl 4 rfl) ?_
      refine lv_if_lt (tgt := 117) hx hb dX0_keepPath_20 (by decide) (fun cn491 => ?_) (fun cn491 => ?_)
      · skip
        have bd492 : (-1 : Int) ≤ zi298.toInt ∧ zi298.toInt ≤ -1 := r_lt_x cn491 bd302 bc_0 (by decide) (by decide)
        rw [hQ]
        exact kz_v hx hb hr hlocks hS hp299 hw ⟨ok301, (Fr.tr (Fr.put (cq := 1003) (Fr.rf) eh2 kd900 (cd_o (by decide)) (by decide)) F300 (by decide))⟩ (Nat.le_of_ble_eq_true rfl) (Nat.le_of_ble_eq_true rfl) dX0_keepPath_117
      · skip
        have bd493 : (0 : Int) ≤ zi298.toInt ∧ zi298.toInt ≤ 3 := r_le_y (Int32.not_lt.mp cn491) bc_0 bd302 (by decide) (by decide)
        refine lv_iload hx hb dX0_keepPath_23 (lv_at hl 4 rfl) ?_
        refine lv_iconst (v := 4) hx hb dX0_keepPath_25 (by decide) ?_
        refine lv_icmp_ge (tgt := 117) hx hb dX0_keepPath_26 (by decide) (fun c => absurd c (d_nle bc_4 bd493 (by decide))) (fun _ => ?_)
        refine lv_aload_n hx hb dX0_keepPath_29 rfl (lv_at hl 0 rfl) ?_
        obtain ⟨qa495, eq494, kd496⟩ := rd_1002 ok301 kd900
        refine p_get (ci := 0) (v := .ref qa495) (C := RX0) (T := TX0) (N := 8) hx hb hT iw_X0 hown hK hw hW kd900 (by decide) rfl rfl 2 (by decide) eq494 (hT _ tb_593) (fun _ h9 => h9) dX0_keepPath_30 ?_
        refine lv_iload hx hb dX0_keepPath_33 (lv_at hl 4 rfl) ?_
        refine lv_iload hx hb dX0_keepPath_35 (lv_at hl 3 rfl) ?_
        refine p_iast (x := zi297) hx hb hK hw hS hW kd496 (by decide) rfl (hW.len kd496 (n := 4) rfl (by decide)) (vp_b bd493 (by decide) (by decide)) dX0_keepPath_37 (fun hp497 eh498 H locs hw hS => ?_)
        have ok499 := wr_20000 ok301 kd496 eh498
        refine lv_aload_n hx hb dX0_keepPath_38 rfl (lv_at hl 0 rfl) ?_
        refine lv_dup hx hb dX0_keepPath_39 rfl ?_
        obtain ⟨zi501, eq500⟩ := rd_1004 ok499 kd900
        refine p_get (ci := 0) (v := .int zi501) (C := RX0) (T := TX0) (N := 8) hx hb hT iw_X0 hown hK hw hW kd900 (by decide) rfl rfl 4 (by decide) eq500 (hT _ tb_597) (fun _ h9 => h9) dX0_keepPath_40 ?_
        refine lv_aload_n hx hb dX0_keepPath_43 rfl (lv_at hl 1 rfl) ?_
        obtain ⟨zi503, eq502⟩ := rd_11006 ok499 kd901
        refine p_getN (ci := 10) (v := .int zi503) (C := RX10) (T := TX10) (N := 20) hx hb hT iw_X10 hown hK hw hW kd901 (by decide) rfl rfl 6 (by decide) eq502 (hK.fl nw_105) (fun _ h9 => h9) dX0_keepPath_44 ?_
        refine lv_iload hx hb dX0_keepPath_47 (lv_at hl 3 rfl) ?_
        refine lv_ishr hx hb dX0_keepPath_49 (lv_topi (fun zi504 ea505 => ?_))
        refine lv_iconst (v := 1) hx hb dX0_keepPath_50 (by decide) ?_
        refine lv_iand hx hb dX0_keepPath_51 (lv_topi (fun zi506 ea507 => ?_))
        have bd508 : (0 : Int) ≤ zi506.toInt ∧ zi506.toInt ≤ 1 := b_and_r ea507 bc_1 (by decide) (by decide) (by decide)
        have jn515 : ∀ (zi513 : Int32) (H : Heap) (locs : List Loc) (ls : Array Slot), ((0 : Int) ≤ zi513.toInt ∧ zi513.toInt ≤ 1) → lv_has ls 8 [(0, .ref qa900), (1, .ref qa901), (5, .int zi296), (6, .int zi297), (7, .int zi298)] → PW G cy K ln Ls A hp497 H → va_S A s.heap H locs → W p l e ({ frames := 0, cells := 0, slots := 0, locals := 0 } : Room) s m ([.ref qa900, .ref qa901, .int zi902, .int zi903, .int zi904] : List Value).toArray below meth c H locs 0 0 Q (F0 m 60 ls [.int zi513, .int zi501, .ref qa900]) := by
          intro zi513 H locs ls bd514 hl hw hS
          refine lv_iadd hx hb dX0_keepPath_60 (lv_topi (fun zi516 ea517 => ?_))
          refine p_put (ci := 0) (v := .int zi516) (ty := .int) (C := RX0) (T := TX0) (N := 8) hx hb hT iw_X0 tyX0 tyX0_ok nmX0 hown hK hw hS hW kd900 (by decide) rfl rfl 4 (by decide) (hT _ tb_597) (fun _ h9 => h9) rfl (by decide +kernel) rfl rfl dX0_keepPath_61 (fun hp518 eh519 H locs hw hS => ?_)
          have ok520 := wr_1004 ok499 kd900 eh519
          refine lv_iload hx hb dX0_keepPath_64 (lv_at hl 2 rfl) ?_
          have jn549 : ∀ (zi547 : Int32) (zi548 : Int32) (H : Heap) (locs : List Loc) (ls : Array Slot), lv_has ls 8 [(0, .ref qa900), (1, .ref qa901), (5, .int zi547), (6, .int zi548), (7, .int zi298)] → PW G cy K ln Ls A hp518 H → va_S A s.heap H locs → W p l e ({ frames := 0, cells := 0, slots := 0, locals := 0 } : Room) s m ([.ref qa900, .ref qa901, .int zi902, .int zi903, .int zi904] : List Value).toArray below meth c H locs 0 0 Q (F0 m 111 ls []) := by
            intro zi547 zi548 H locs ls hl hw hS
            obtain ⟨zi550, ea551⟩ : ∃ z : Int32, z = zi298 + (-1) := ⟨_, rfl⟩
            have bd552 : (-1 : Int) ≤ zi550.toInt ∧ zi550.toInt ≤ 2 := b_iadd ea551 bd493 bc_m1 (by decide) (by decide) (by decide) (by decide)
            have qe553 : zi550.toInt = (zi298 : Int32).toInt + ((-1) : Int32).toInt := e_iadd ea551 bd493 bc_m1 (by decide) (by decide)
            have qe554 : zi550.toInt = zi298.toInt + (-1) := by have ha : ((-1) : Int32).toInt = (-1) := (by decide); rw [ha] at qe553; exact qe553
            refine lv_iinc (v := zi550) (lv' := [(7, .int zi550), (0, .ref qa900), (1, .ref qa901), (5, .int zi547), (6, .int zi548)]) hx hb dX0_keepPath_111 hl (k := 4) rfl ea551.symm (by decide) rfl (fun ls hl => ?_)
            refine lv_goto (tgt := 18) hx hb dX0_keepPath_114 (by decide) ?_
            exact ih488 hp518 zi547 zi548 zi550 _ _ ls (by have := hm490; have := qe554; omega) ok520 (Fr.put (cq := 1004) (Fr.put (cq := 20000) (Fr.tr (Fr.rf) F300 (by decide)) eh498 kd496 (cd_a (by decide)) (by decide)) eh519 kd900 (cd_o (by decide)) (by decide)) (b_wid2 bd552 (by decide) (by decide)) (lv_sub hl [1, 2, 3, 4, 0] rfl) hw hS
          refine lv_if_lt (tgt := 111) hx hb dX0_keepPath_66 (by decide) (fun cn521 => ?_) (fun cn521 => ?_)
          · skip
            have bd555 : (-2147483648 : Int) ≤ zi296.toInt ∧ zi296.toInt ≤ -1 := r_lt_x cn521 (b_all zi296) bc_0 (by decide) (by decide)
            exact jn549 zi296 zi297 _ _ ls (lv_sub hl [0, 1, 2, 3, 4] rfl) hw hS
          · skip
            have bd556 : (0 : Int) ≤ zi296.toInt ∧ zi296.toInt ≤ 2147483647 := r_le_y (Int32.not_lt.mp cn521) bc_0 (b_all zi296) (by decide) (by decide)
            refine lv_iload hx hb dX0_keepPath_69 (lv_at hl 2 rfl) ?_
            refine lv_aload_n hx hb dX0_keepPath_71 rfl (lv_at hl 0 rfl) ?_
            obtain ⟨qa558, eq557, kd559⟩ := rd_1000 ok520 kd900
            refine p_get (ci := 0) (v := .ref qa558) (C := RX0) (T := TX0) (N := 8) hx hb hT iw_X0 hown hK hw hW kd900 (by decide) rfl rfl 0 (by decide) eq557 (hT _ tb_591) (fun _ h9 => h9) dX0_keepPath_72 ?_
            obtain ⟨zi561, eq560, bd562⟩ := rd_4006 ok520 kd559
            have pd563 : NSx K ln hp518 gn := NSx_fr ok0  (show Fr [1003, 1004, 20000] K hp0 hp518 from (Fr.put (cq := 1004) (Fr.put (cq := 20000) (Fr.tr (Fr.put (cq := 1003) (Fr.rf) eh2 kd900 (cd_o (by decide)) (by decide)) F300 (by decide)) eh498 kd496 (cd_a (by decide)) (by decide)) eh519 kd900 (cd_o (by decide)) (by decide))) (by decide) pdNS
            have nz564 := (pd563).sz kd559 eq560
            refine p_getN (ci := 3) (v := .int zi561) (C := RX3) (T := TX3) (N := 7) hx hb hT iw_X3 hown hK hw hW kd559 (by decide) rfl rfl 6 (by decide) eq560 (hK.fl nw_400) (fun _ h9 => h9) dX0_keepPath_75 ?_
            refine lv_icmp_ge (tgt := 111) hx hb dX0_keepPath_78 (by decide) (fun cn565 => ?_) (fun cn565 => ?_)
            · skip
              have tf566 : zi561.toInt ≤ zi296.toInt := (fa_le _ _).mp cn565
              exact jn549 zi296 zi297 _ _ ls (lv_sub hl [0, 1, 2, 3, 4] rfl) hw hS
            · skip
              have tf567 : zi296.toInt < zi561.toInt := (fa_lt _ _).mp (Int32.not_le.mp cn565)
              have bd568 : (0 : Int) ≤ zi296.toInt ∧ zi296.toInt ≤ 131071 := r_lt_x (Int32.not_le.mp cn565) bd556 bd562 (by decide) (by decide)
              have bd569 : (1 : Int) ≤ zi561.toInt ∧ zi561.toInt ≤ 131072 := r_lt_y (Int32.not_le.mp cn565) bd556 bd562 (by decide) (by decide)
              refine lv_aload_n hx hb dX0_keepPath_81 rfl (lv_at hl 0 rfl) ?_
              refine p_get (ci := 0) (v := .ref qa558) (C := RX0) (T := TX0) (N := 8) hx hb hT iw_X0 hown hK hw hW kd900 (by decide) rfl rfl 0 (by decide) eq557 (hT _ tb_591) (fun _ h9 => h9) dX0_keepPath_82 ?_
              obtain ⟨qa571, eq570, kd572⟩ := rd_4003 ok520 kd559
              have ln573 := (pd563).ref kd559 (by decide) eq570
              refine p_getN (ci := 3) (v := .ref qa571) (C := RX3) (T := TX3) (N := 7) hx hb hT iw_X3 hown hK hw hW kd559 (by decide) rfl rfl 3 (by decide) eq570 (hK.fl nw_395) (fun _ h9 => h9) dX0_keepPath_85 ?_
              refine lv_iload hx hb dX0_keepPath_88 (lv_at hl 2 rfl) ?_
              obtain ⟨zi575, eq574⟩ := rd_31000 ok520 kd572 ((zi296 : Int32).toNatClampNeg)
              refine p_iald (v := zi575) hx hb hK hw hW kd572 (by decide) rfl ln573 (vp_bv (by omega) (by omega)) eq574 dX0_keepPath_90 ?_
              refine lv_bipush (v := 16) hx hb dX0_keepPath_91 (by decide) ?_
              refine lv_irem hx hb dX0_keepPath_93 (ne_z bc_16 (by decide)) (lv_topi (fun zi576 ea577 => ?_))
              refine lv_istore (lv' := [(6, .int zi576), (0, .ref qa900), (1, .ref qa901), (5, .int zi296), (7, .int zi298)]) hx hb dX0_keepPath_94 hl (by decide) rfl (fun ls hl => ?_)
              refine lv_aload_n hx hb dX0_keepPath_96 rfl (lv_at hl 1 rfl) ?_
              refine p_get (ci := 0) (v := .ref qa558) (C := RX0) (T := TX0) (N := 8) hx hb hT iw_X0 hown hK hw hW kd900 (by decide) rfl rfl 0 (by decide) eq557 (hT _ tb_591) (fun _ h9 => h9) dX0_keepPath_97 ?_
              refine p_getN (ci := 3) (v := .ref qa571) (C := RX3) (T := TX3) (N := 7) hx hb hT iw_X3 hown hK hw hW kd559 (by decide) rfl rfl 3 (by decide) eq570 (hK.fl nw_395) (fun _ h9 => h9) dX0_keepPath_100 ?_
              refine lv_iload hx hb dX0_keepPath_103 (lv_at hl 3 rfl) ?_
              refine p_iald (v := zi575) hx hb hK hw hW kd572 (by decide) rfl ln573 (vp_bv (by omega) (by omega)) eq574 dX0_keepPath_105 ?_
              refine lv_bipush (v := 16) hx hb dX0_keepPath_106 (by decide) ?_
              refine lv_idiv hx hb dX0_keepPath_108 (ne_z bc_16 (by decide)) (lv_topi (fun zi578 ea579 => ?_))
              refine lv_istore (lv' := [(5, .int zi578), (6, .int zi576), (0, .ref qa900), (1, .ref qa901), (7, .int zi298)]) hx hb dX0_keepPath_109 hl (by decide) rfl (fun ls hl => ?_)
              exact jn549 zi578 zi576 _ _ ls (lv_sub hl [2, 3, 0, 1, 4] rfl) hw hS
        refine lv_if_ne (tgt := 59) hx hb dX0_keepPath_52 (by decide) (fun cn509 => ?_) (fun cn509 => ?_)
        · skip
          have tf580 : (zi506 : Int32).toInt ≠ (0 : Int32).toInt := fun e => cn509 (Int32.toInt_inj.mp e)
          have := toi bc_0
          have bd581 : (1 : Int) ≤ zi506.toInt ∧ zi506.toInt ≤ 1 := r_ne_lo cn509 bd508 (toi bc_0) (by decide) (by decide)
          refine lv_iconst (v := 0) hx hb dX0_keepPath_59 (by decide) ?_
          exact jn515 0 _ _ ls (b_wid2 bc_0 (by decide) (by decide)) (lv_sub hl [0, 1, 2, 3, 4] rfl) hw hS
        · skip
          have bd582 : (0 : Int) ≤ zi506.toInt ∧ zi506.toInt ≤ 0 := r_eq_x cn509 bd508 bc_0 (by decide) (by decide)
          refine lv_iconst (v := 1) hx hb dX0_keepPath_55 (by decide) ?_
          refine lv_goto (tgt := 60) hx hb dX0_keepPath_56 (by decide) ?_
          exact jn515 1 _ _ ls (b_wid2 bc_1 (by decide) (by decide)) (lv_sub hl [0, 1, 2, 3, 4] rfl) hw hS
  exact lp489 _ hp1 zi902 zi903 zi4 _ _ ls (lp_in _) ok3 (Fr.rf) (b_wid2 bd6 (by decide) (by decide)) (lv_sub hl [3, 4, 2, 1, 0] rfl) hw hS
