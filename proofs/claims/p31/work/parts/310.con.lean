set_option maxRecDepth 100000 in
set_option maxHeartbeats 4000000 in
theorem cJ7_fill_53178_vV_0 (l : Launch) (G : va_G) (cy : Nat → ClassId) (ev : Ew) (K ln : Nat → Nat) (Ls : List Nat) (hW : SW K ln Ls) (sz : Nat) (hp0 : Nat → Nat → Value) (ok0 : Ok K hp0) (qa900 : Nat) (zi901 : Int32) (kd900 : K qa900 = 33) (bd901 : ((0 : Int) ≤ zi901.toInt ∧ zi901.toInt ≤ 0)) (xp0 : ln qa900 ≤ 262144) : Met l yJ7_fill_53178 (WS yJ7_fill_53178 cJ7_fill_53178 4 none) { frames := 0, cells := 0, slots := 0, locals := 0 } (PB2 [.ref qa900, .int zi901] sz G cy ev (va_pl Ls (cellOf cy K ln hp0))) (QBv (S := (Nat → Nat → Value)) (fun u : (Nat → Nat → Value) => Ok K u ∧ Fr [33000] K hp0 u ∧ (∀ k : Nat, k < ln qa900 → u qa900 k = .int zi901)) G (fun u => va_pl Ls (cellOf cy K ln u)) (va_A (va_pl Ls (cellOf cy K ln hp0)) sz)) 0 0 (va_A (va_pl Ls (cellOf cy K ln hp0)) sz) := by
  refine met_of2 (y := yJ7_fill_53178) (L := 4) (av := [.ref qa900, .int zi901]) (Qc := fun A => QBv (S := (Nat → Nat → Value)) (fun u : (Nat → Nat → Value) => Ok K u ∧ Fr [33000] K hp0 u ∧ (∀ k : Nat, k < ln qa900 → u qa900 k = .int zi901)) G (fun u => va_pl Ls (cellOf cy K ln u)) A) (plainFor_of_name (by decide)) (Nat.le_of_ble_eq_true rfl) ?_
  intro p e s m below meth c hsz hx hb hr hml hown hT hlocks hin hK A hA hE hw hS ls hl
  have hw : PW G cy K ln Ls A hp0 s.heap := hw
  have hown : s.vm.findClass "java/util/Arrays" = some m.cls := hown
  have hl : lv_has ls 4 [(0, .ref qa900), (1, .int zi901)] := hl
  obtain ⟨Q, hQ⟩ : ∃ Q : State → Prop, Q = MQ below (QBv (S := (Nat → Nat → Value)) (fun u : (Nat → Nat → Value) => Ok K u ∧ Fr [33000] K hp0 u ∧ (∀ k : Nat, k < ln qa900 → u qa900 k = .int zi901)) G (fun u => va_pl Ls (cellOf cy K ln u)) A) ([.ref qa900, .int zi901] : List Value).toArray s 0 0 A := ⟨_, rfl⟩
  rw [← hQ]
  refine lv_iconst (v := 0) hx hb dJ7_fill_53178_0 (by decide) ?_
  refine lv_istore_n (lv' := [(2, .int 0), (0, .ref qa900), (1, .int zi901)]) hx hb dJ7_fill_53178_1 rfl hl (by decide) rfl (fun ls hl => ?_)
  refine lv_aload_n hx hb dJ7_fill_53178_2 rfl (lv_at hl 1 rfl) ?_
  obtain ⟨zi1, ez2⟩ : ∃ z : Int32, Int32.ofNat (ln qa900) = z := ⟨_, rfl⟩
  refine p_alen (v := zi1) hx hb hK hw hW kd900 (by decide) rfl rfl ez2 dJ7_fill_53178_3 ?_
  have hl3 : zi1.toInt = (ln qa900 : Nat) := ofNat_len ez2 (by omega)
  have bd4 : (0 : Int) ≤ zi1.toInt ∧ zi1.toInt ≤ 262144 := (by omega)
  refine lv_istore_n (lv' := [(3, .int zi1), (2, .int 0), (0, .ref qa900), (1, .int zi901)]) hx hb dJ7_fill_53178_4 rfl hl (by decide) rfl (fun ls hl => ?_)
  have lp98 : ∀ (n96 : Nat) (hp63 : Nat → Nat → Value) (zi62 : Int32) (H : Heap) (locs : List Loc) (ls : Array Slot), 262144 - zi62.toInt < (n96 : Int) → Ok K hp63 → Fr [33000] K hp0 hp63 → ((0 : Int) ≤ zi62.toInt ∧ zi62.toInt ≤ 262144) → (∀ k : Nat, (k : Int) < (zi62 : Int32).toInt → hp63 qa900 k = .int zi901) → lv_has ls 4 [(0, .ref qa900), (1, .int zi901), (2, .int zi62), (3, .int zi1)] → PW G cy K ln Ls A hp63 H → va_S A s.heap H locs → W p l e ({ frames := 0, cells := 0, slots := 0, locals := 0 } : Room) s m ([.ref qa900, .int zi901] : List Value).toArray below meth c H locs 0 0 Q (F0 m 5 ls []) := by
    intro n96
    induction n96 with
    | zero =>
      intro hp63 zi62 H locs ls hm99 ok65 F64 bd67 jx66 hl hw hS
      exact absurd hm99 (by have := bd67; omega)
    | succ n96 ih97 =>
      intro hp63 zi62 H locs ls hm99 ok65 F64 bd67 jx66 hl hw hS
      refine lv_iload_n hx hb dJ7_fill_53178_5 rfl (lv_at hl 2 rfl) ?_
      refine lv_iload_n hx hb dJ7_fill_53178_6 rfl (lv_at hl 3 rfl) ?_
      refine lv_icmp_ge (tgt := 20) hx hb dJ7_fill_53178_7 (by decide) (fun cn100 => ?_) (fun cn100 => ?_)
      · skip
        have tf101 : zi1.toInt ≤ zi62.toInt := (fa_le _ _).mp cn100
        rw [hQ]
        exact kz_v hx hb hr hlocks hS hp63 hw ⟨ok65, (Fr.tr (Fr.rf) F64 (by decide)), (fun k hk => jx66 k (by omega))⟩ (Nat.le_of_ble_eq_true rfl) (Nat.le_of_ble_eq_true rfl) dJ7_fill_53178_20
      · skip
        have tf102 : zi62.toInt < zi1.toInt := (fa_lt _ _).mp (Int32.not_le.mp cn100)
        have bd103 : (0 : Int) ≤ zi62.toInt ∧ zi62.toInt ≤ 262143 := r_lt_x (Int32.not_le.mp cn100) bd67 bd4 (by decide) (by decide)
        have bd104 : (1 : Int) ≤ zi1.toInt ∧ zi1.toInt ≤ 262144 := r_lt_y (Int32.not_le.mp cn100) bd67 bd4 (by decide) (by decide)
        refine lv_aload_n hx hb dJ7_fill_53178_10 rfl (lv_at hl 0 rfl) ?_
        refine lv_iload_n hx hb dJ7_fill_53178_11 rfl (lv_at hl 2 rfl) ?_
        refine lv_iload_n hx hb dJ7_fill_53178_12 rfl (lv_at hl 1 rfl) ?_
        refine p_iast (x := zi901) hx hb hK hw hS hW kd900 (by decide) rfl rfl (vp_bv (by omega) (by omega)) dJ7_fill_53178_13 (fun hp105 eh106 H locs hw hS => ?_)
        have ok107 := wr_33000 bd901 (by decide) (by decide) ok65 kd900 eh106
        obtain ⟨zi108, ea109⟩ : ∃ z : Int32, z = zi62 + 1 := ⟨_, rfl⟩
        have bd110 : (1 : Int) ≤ zi108.toInt ∧ zi108.toInt ≤ 262144 := b_iadd ea109 bd103 bc_1 (by decide) (by decide) (by decide) (by decide)
        have qe111 : zi108.toInt = (zi62 : Int32).toInt + (1 : Int32).toInt := e_iadd ea109 bd103 bc_1 (by decide) (by decide)
        have qe112 : zi108.toInt = zi62.toInt + 1 := by have ha : (1 : Int32).toInt = 1 := (by decide); rw [ha] at qe111; exact qe111
        refine lv_iinc (v := zi108) (lv' := [(2, .int zi108), (0, .ref qa900), (1, .int zi901), (3, .int zi1)]) hx hb dJ7_fill_53178_14 hl (k := 2) rfl ea109.symm (by decide) rfl (fun ls hl => ?_)
        have fl113 := fill_step jx66 eh106 (by omega) qe112
        refine lv_goto (tgt := 5) hx hb dJ7_fill_53178_17 (by decide) ?_
        exact ih97 hp105 zi108 _ _ ls (by have := hm99; have := qe112; omega) ok107 (Fr.put (cq := 33000) (Fr.tr (Fr.rf) F64 (by decide)) eh106 kd900 (cd_a (by decide)) (by decide)) (b_wid2 bd110 (by decide) (by decide)) fl113 (lv_sub hl [1, 2, 0, 3] rfl) hw hS
  exact lp98 _ hp0 0 _ _ ls (lp_in _) ok0 (Fr.rf) (b_wid2 bc_0 (by decide) (by decide)) (fun k hk => absurd hk (by have := toi bc_0; omega)) (lv_sub hl [2, 3, 1, 0] rfl) hw hS

set_option maxRecDepth 100000 in
set_option maxHeartbeats 4000000 in
theorem cX3_clear_0 (l : Launch) (G : va_G) (cy : Nat → ClassId) (ev : Ew) (K ln : Nat → Nat) (Ls : List Nat) (hW : SW K ln Ls) (sz : Nat) (hp0 : Nat → Nat → Value) (ok0 : Ok K hp0) (qa900 : Nat) (gn : Nat) (kd900 : K qa900 = 4) (pdNS : NSx K ln hp0 gn) : Met l yX3_clear (WS yX3_clear cX3_clear 1 none) { frames := 1, cells := 0, slots := 0, locals := 23 } (PB2 [.ref qa900] sz G cy ev (va_pl Ls (cellOf cy K ln hp0))) (QBv (S := (Nat → Nat → Value)) (fun u : (Nat → Nat → Value) => Ok K u ∧ Fr [4006, 33000] K hp0 u ∧ (∃ z : Int32, u qa900 6 = .int z ∧ ((0 : Int) ≤ z.toInt ∧ z.toInt ≤ 0)) ∧ (NSx K ln u gn)) G (fun u => va_pl Ls (cellOf cy K ln u)) (va_A (va_pl Ls (cellOf cy K ln hp0)) sz)) 0 0 (va_A (va_pl Ls (cellOf cy K ln hp0)) sz) := by
  refine met_of2 (y := yX3_clear) (L := 1) (av := [.ref qa900]) (Qc := fun A => QBv (S := (Nat → Nat → Value)) (fun u : (Nat → Nat → Value) => Ok K u ∧ Fr [4006, 33000] K hp0 u ∧ (∃ z : Int32, u qa900 6 = .int z ∧ ((0 : Int) ≤ z.toInt ∧ z.toInt ≤ 0)) ∧ (NSx K ln u gn)) G (fun u => va_pl Ls (cellOf cy K ln u)) A) (plainFor_of_name (by decide)) (Nat.le_of_ble_eq_true rfl) ?_
  intro p e s m below meth c hsz hx hb hr hml hown hT hlocks hin hK A hA hE hw hS ls hl
  have hw : PW G cy K ln Ls A hp0 s.heap := hw
  have hown : s.vm.findClass "LieClock$Nodes" = some m.cls := hown
  have hl : lv_has ls 1 [(0, .ref qa900)] := hl
  obtain ⟨Q, hQ⟩ : ∃ Q : State → Prop, Q = MQ below (QBv (S := (Nat → Nat → Value)) (fun u : (Nat → Nat → Value) => Ok K u ∧ Fr [4006, 33000] K hp0 u ∧ (∃ z : Int32, u qa900 6 = .int z ∧ ((0 : Int) ≤ z.toInt ∧ z.toInt ≤ 0)) ∧ (NSx K ln u gn)) G (fun u => va_pl Ls (cellOf cy K ln u)) A) ([.ref qa900] : List Value).toArray s 0 0 A := ⟨_, rfl⟩
  rw [← hQ]
  have hgn := NSx.bd pdNS
  refine lv_aload_n hx hb dX3_clear_0 rfl (lv_at hl 0 rfl) ?_
  refine lv_iconst (v := 0) hx hb dX3_clear_1 (by decide) ?_
  refine p_put (ci := 3) (v := .int 0) (ty := .int) (C := RX3) (T := TX3) (N := 7) hx hb hT iw_X3 tyX3 tyX3_ok nmX3 hown hK hw hS hW kd900 (by decide) rfl rfl 6 (by decide) (hT _ tb_503) (fun _ h9 => h9) rfl (by decide +kernel) rfl rfl dX3_clear_2 (fun hp1 eh2 H locs hw hS => ?_)
  have ok3 := wr_4006 bc_0 (by decide) (by decide) ok0 kd900 eh2
  have ns4 : NSx K ln hp1 gn := NSx_size pdNS eh2 kd900 (by have := toi bc_0; omega) ok0
  refine lv_aload_n hx hb dX3_clear_5 rfl (lv_at hl 0 rfl) ?_
  obtain ⟨qa6, eq5, kd7⟩ := rd_4005 ok3 kd900
  have ln8 := (ns4).tab kd900 eq5
  refine p_get (ci := 3) (v := .ref qa6) (C := RX3) (T := TX3) (N := 7) hx hb hT iw_X3 hown hK hw hW kd900 (by decide) rfl rfl 5 (by decide) eq5 (hT _ tb_502) (fun _ h9 => h9) dX3_clear_6 ?_
  refine lv_iconst (v := 0) hx hb dX3_clear_9 (by decide) ?_
  refine kq_v hw hS hA (va_runS (As := [.ref qa6, .int 0]) (rest := []) ⟨hx, hb, hml, hown, hT⟩ (cJ7_fill_53178_vV_0 l G cy ev K ln Ls hW _ hp1 ok3 qa6 0 kd7 (b_wid2 bc_0 (by decide) (by decide)) (by rw [ln8]; omega)) (va_cwS 2 hT (good_S tb_483 tb_1137 tb_482 tb_116) rfl rfl rfl (by decide +kernel) ⟨Nat.le_of_ble_eq_true rfl, Nat.le_of_ble_eq_true rfl⟩) (PB2.preS hK hE hS hA hw) rfl rfl hl.1 rfl (lv_room (Nat.le_of_ble_eq_true rfl)) dX3_clear_10 ⟨Nat.le_of_ble_eq_true rfl, Nat.le_of_ble_eq_true rfl⟩) (fun hp9 H locs hq12 hw hS => ?_)
  obtain ⟨ok10, F11, xq14⟩ := hq12
  have hw : PW G cy K ln Ls A hp9 H := hw
  have ns15 : NSx K ln hp9 gn := NSx_fill ok3 ns4 kd900 eq5 F11 xq14
  have eq16 : hp9 qa900 6 = .int 0 := Eq.trans (Fr.at (cq := 4006) F11 kd900 (cd_o (by decide)) (by decide)) (hp_self eh2)
  rw [hQ]
  exact kz_v hx hb hr hlocks hS hp9 hw ⟨ok10, (Fr.tr (Fr.put (cq := 4006) (Fr.rf) eh2 kd900 (cd_o (by decide)) (by decide)) F11 (by decide)), ⟨_, eq16, b_wid2 bc_0 (by decide) (by decide)⟩, (ns15)⟩ (Nat.le_of_ble_eq_true rfl) (Nat.le_of_ble_eq_true rfl) dX3_clear_13

set_option maxRecDepth 100000 in
set_option maxHeartbeats 4000000 in
theorem cX3_load_0 (l : Launch) (G : va_G) (cy : Nat → ClassId) (ev : Ew) (K ln : Nat → Nat) (Ls : List Nat) (hW : SW K ln Ls) (sz : Nat) (hp0 : Nat → Nat → Value) (ok0 : Ok K hp0) (qa900 : Nat) (zi901 : Int32) (qa902 : Nat) (gn : Nat) (kd900 : K qa900 = 4) (kd902 : K qa902 = 8) (pdNS : NSx K ln hp0 gn) : Met l yX3_load (WS yX3_load cX3_load 3 none) { frames := 0, cells := 0, slots := 0, locals := 0 } (PB2 [.ref qa900, .int zi901, .ref qa902] sz G cy ev (va_pl Ls (cellOf cy K ln hp0))) (QBv (S := (Nat → Nat → Value)) (fun u : (Nat → Nat → Value) => Ok K u ∧ Fr [8000, 8001, 8002, 8004] K hp0 u) G (fun u => va_pl Ls (cellOf cy K ln u)) (va_A (va_pl Ls (cellOf cy K ln hp0)) sz)) 0 0 (va_A (va_pl Ls (cellOf cy K ln hp0)) sz) := by
  refine met_of2 (y := yX3_load) (L := 3) (av := [.ref qa900, .int zi901, .ref qa902]) (Qc := fun A => QBv (S := (Nat → Nat → Value)) (fun u : (Nat → Nat → Value) => Ok K u ∧ Fr [8000, 8001, 8002, 8004] K hp0 u) G (fun u => va_pl Ls (cellOf cy K ln u)) A) (plainFor_of_name (by decide)) (Nat.le_of_ble_eq_true rfl) ?_
  intro p e s m below meth c hsz hx hb hr hml hown hT hlocks hin hK A hA hE hw hS ls hl
  have hw : PW G cy K ln Ls A hp0 s.heap := hw
  have hown : s.vm.findClass "LieClock$Nodes" = some m.cls := hown
  have hl : lv_has ls 3 [(0, .ref qa900), (1, .int zi901), (2, .ref qa902)] := hl
  obtain ⟨Q, hQ⟩ : ∃ Q : State → Prop, Q = MQ below (QBv (S := (Nat → Nat → Value)) (fun u : (Nat → Nat → Value) => Ok K u ∧ Fr [8000, 8001, 8002, 8004] K hp0 u) G (fun u => va_pl Ls (cellOf cy K ln u)) A) ([.ref qa900, .int zi901, .ref qa902] : List Value).toArray s 0 0 A := ⟨_, rfl⟩
  rw [← hQ]
  have hgn := NSx.bd pdNS
  refine lv_iload_n hx hb dX3_load_0 rfl (lv_at hl 1 rfl) ?_
  refine lv_if_lt (tgt := 58) hx hb dX3_load_1 (by decide) (fun cn1 => ?_) (fun cn1 => ?_)
  · skip
    have bd2 : (-2147483648 : Int) ≤ zi901.toInt ∧ zi901.toInt ≤ -1 := r_lt_x cn1 (b_all zi901) bc_0 (by decide) (by decide)
    rw [hQ]
    exact kz_v hx hb hr hlocks hS hp0 hw ⟨ok0, (Fr.rf)⟩ (Nat.le_of_ble_eq_true rfl) (Nat.le_of_ble_eq_true rfl) dX3_load_58
  · skip
    have bd3 : (0 : Int) ≤ zi901.toInt ∧ zi901.toInt ≤ 2147483647 := r_le_y (Int32.not_lt.mp cn1) bc_0 (b_all zi901) (by decide) (by decide)
    refine lv_iload_n hx hb dX3_load_4 rfl (lv_at hl 1 rfl) ?_
    refine lv_aload_n hx hb dX3_load_5 rfl (lv_at hl 0 rfl) ?_
    obtain ⟨zi5, eq4, bd6⟩ := rd_4006 ok0 kd900
    have nz7 := (pdNS).sz kd900 eq4
    refine p_get (ci := 3) (v := .int zi5) (C := RX3) (T := TX3) (N := 7) hx hb hT iw_X3 hown hK hw hW kd900 (by decide) rfl rfl 6 (by decide) eq4 (hT _ tb_503) (fun _ h9 => h9) dX3_load_6 ?_
    refine lv_icmp_ge (tgt := 58) hx hb dX3_load_9 (by decide) (fun cn8 => ?_) (fun cn8 => ?_)
    · skip
      have tf9 : zi5.toInt ≤ zi901.toInt := (fa_le _ _).mp cn8
      rw [hQ]
      exact kz_v hx hb hr hlocks hS hp0 hw ⟨ok0, (Fr.rf)⟩ (Nat.le_of_ble_eq_true rfl) (Nat.le_of_ble_eq_true rfl) dX3_load_58
    · skip
      have tf10 : zi901.toInt < zi5.toInt := (fa_lt _ _).mp (Int32.not_le.mp cn8)
      have bd11 : (0 : Int) ≤ zi901.toInt ∧ zi901.toInt ≤ 131071 := r_lt_x (Int32.not_le.mp cn8) bd3 bd6 (by decide) (by decide)
      have bd12 : (1 : Int) ≤ zi5.toInt ∧ zi5.toInt ≤ 131072 := r_lt_y (Int32.not_le.mp cn8) bd3 bd6 (by decide) (by decide)
      refine lv_aload_n hx hb dX3_load_12 rfl (lv_at hl 2 rfl) ?_
      refine lv_aload_n hx hb dX3_load_13 rfl (lv_at hl 0 rfl) ?_
      obtain ⟨qa14, eq13, kd15⟩ := rd_4001 ok0 kd900
      have ln16 := (pdNS).ref kd900 (by decide) eq13
      refine p_get (ci := 3) (v := .ref qa14) (C := RX3) (T := TX3) (N := 7) hx hb hT iw_X3 hown hK hw hW kd900 (by decide) rfl rfl 1 (by decide) eq13 (hT _ tb_495) (fun _ h9 => h9) dX3_load_14 ?_
      refine lv_iload_n hx hb dX3_load_17 rfl (lv_at hl 1 rfl) ?_
      obtain ⟨zi18, eq17⟩ := rd_29000 ok0 kd15 ((zi901 : Int32).toNatClampNeg)
      refine p_iald (v := zi18) hx hb hK hw hW kd15 (by decide) rfl ln16 (vp_bv (by omega) (by omega)) eq17 dX3_load_18 ?_
      refine p_putN (ci := 7) (v := .int zi18) (ty := .int) (C := RX7) (T := TX7) (N := 13) hx hb hT iw_X7 tyX7 tyX7_ok nmX7 hown hK hw hS hW kd902 (by decide) rfl rfl 0 (by decide) (hK.fl nw_308) (fun _ h9 => h9) rfl (by decide +kernel) rfl rfl dX3_load_19 (fun hp19 eh20 H locs hw hS => ?_)
      have ok21 := wr_8000 ok0 kd902 eh20
      refine lv_aload_n hx hb dX3_load_22 rfl (lv_at hl 2 rfl) ?_
      refine lv_aload_n hx hb dX3_load_23 rfl (lv_at hl 0 rfl) ?_
      obtain ⟨qa23, eq22, kd24⟩ := rd_4000 ok21 kd900
      have pd25 : NSx K ln hp19 gn := NSx_fr ok0  (show Fr [8000] K hp0 hp19 from (Fr.put (cq := 8000) (Fr.rf) eh20 kd902 (cd_o (by decide)) (by decide))) (by decide) pdNS
      have ln26 := (pd25).ref kd900 (by decide) eq22
      refine p_get (ci := 3) (v := .ref qa23) (C := RX3) (T := TX3) (N := 7) hx hb hT iw_X3 hown hK hw hW kd900 (by decide) rfl rfl 0 (by decide) eq22 (hT _ tb_492) (fun _ h9 => h9) dX3_load_24 ?_
      refine lv_iload_n hx hb dX3_load_27 rfl (lv_at hl 1 rfl) ?_
      obtain ⟨zi28, eq27⟩ := rd_28000 ok21 kd24 ((zi901 : Int32).toNatClampNeg)
      refine p_iald (v := zi28) hx hb hK hw hW kd24 (by decide) rfl ln26 (vp_bv (by omega) (by omega)) eq27 dX3_load_28 ?_
      refine lv_ldc (v := 65535) hx hb hown (hT _ tb_1197) dX3_load_29 ?_
      refine lv_iand hx hb dX3_load_31 (lv_topi (fun zi29 ea30 => ?_))
      have bd31 : (0 : Int) ≤ zi29.toInt ∧ zi29.toInt ≤ 65535 := b_and_r ea30 bc_65535 (by decide) (by decide) (by decide)
      refine p_putN (ci := 7) (v := .int zi29) (ty := .int) (C := RX7) (T := TX7) (N := 13) hx hb hT iw_X7 tyX7 tyX7_ok nmX7 hown hK hw hS hW kd902 (by decide) rfl rfl 1 (by decide) (hK.fl nw_313) (fun _ h9 => h9) rfl (by decide +kernel) rfl rfl dX3_load_32 (fun hp32 eh33 H locs hw hS => ?_)
      have ok34 := wr_8001 ok21 kd902 eh33
      refine lv_aload_n hx hb dX3_load_35 rfl (lv_at hl 2 rfl) ?_
      refine lv_aload_n hx hb dX3_load_36 rfl (lv_at hl 0 rfl) ?_
      have eq35 : hp32 qa900 0 = .ref qa23 := Eq.trans (up_at eh33 (Or.inl (kd_ne kd900 kd902 (by decide)))) eq22
      refine p_get (ci := 3) (v := .ref qa23) (C := RX3) (T := TX3) (N := 7) hx hb hT iw_X3 hown hK hw hW kd900 (by decide) rfl rfl 0 (by decide) eq35 (hT _ tb_492) (fun _ h9 => h9) dX3_load_37 ?_
      refine lv_iload_n hx hb dX3_load_40 rfl (lv_at hl 1 rfl) ?_
      have eq36 : hp32 qa23 (zi901 : Int32).toNatClampNeg = .int zi28 := Eq.trans (up_at eh33 (Or.inl (kd_ne kd24 kd902 (by decide)))) eq27
      refine p_iald (v := zi28) hx hb hK hw hW kd24 (by decide) rfl ln26 (vp_bv (by omega) (by omega)) eq36 dX3_load_41 ?_
      refine lv_bipush (v := 16) hx hb dX3_load_42 (by decide) ?_
      refine lv_iushr hx hb dX3_load_44 rfl (lv_topi (fun zi37 ea38 => ?_))
      refine p_putN (ci := 7) (v := .int zi37) (ty := .int) (C := RX7) (T := TX7) (N := 13) hx hb hT iw_X7 tyX7 tyX7_ok nmX7 hown hK hw hS hW kd902 (by decide) rfl rfl 2 (by decide) (hK.fl nw_317) (fun _ h9 => h9) rfl (by decide +kernel) rfl rfl dX3_load_45 (fun hp39 eh40 H locs hw hS => ?_)
      have ok41 := wr_8002 ok34 kd902 eh40
      refine lv_aload_n hx hb dX3_load_48 rfl (lv_at hl 2 rfl) ?_
      refine lv_aload_n hx hb dX3_load_49 rfl (lv_at hl 0 rfl) ?_
      obtain ⟨qa43, eq42, kd44⟩ := rd_4002 ok41 kd900
      have pd45 : NSx K ln hp39 gn := NSx_fr ok21  (show Fr [8001, 8002] K hp19 hp39 from (Fr.put (cq := 8002) (Fr.put (cq := 8001) (Fr.rf) eh33 kd902 (cd_o (by decide)) (by decide)) eh40 kd902 (cd_o (by decide)) (by decide))) (by decide) pd25
      have ln46 := (pd45).ref kd900 (by decide) eq42
      refine p_get (ci := 3) (v := .ref qa43) (C := RX3) (T := TX3) (N := 7) hx hb hT iw_X3 hown hK hw hW kd900 (by decide) rfl rfl 2 (by decide) eq42 (hT _ tb_497) (fun _ h9 => h9) dX3_load_50 ?_
      refine lv_iload_n hx hb dX3_load_53 rfl (lv_at hl 1 rfl) ?_
      obtain ⟨zi48, eq47⟩ := rd_30000 ok41 kd44 ((zi901 : Int32).toNatClampNeg)
      refine p_iald (v := zi48) hx hb hK hw hW kd44 (by decide) rfl ln46 (vp_bv (by omega) (by omega)) eq47 dX3_load_54 ?_
      refine p_putN (ci := 7) (v := .int zi48) (ty := .int) (C := RX7) (T := TX7) (N := 13) hx hb hT iw_X7 tyX7 tyX7_ok nmX7 hown hK hw hS hW kd902 (by decide) rfl rfl 4 (by decide) (hK.fl nw_323) (fun _ h9 => h9) rfl (by decide +kernel) rfl rfl dX3_load_55 (fun hp49 eh50 H locs hw hS => ?_)
      have ok51 := wr_8004 ok41 kd902 eh50
      rw [hQ]
      exact kz_v hx hb hr hlocks hS hp49 hw ⟨ok51, (Fr.put (cq := 8004) (Fr.put (cq := 8002) (Fr.put (cq := 8001) (Fr.put (cq := 8000) (Fr.rf) eh20 kd902 (cd_o (by decide)) (by decide)) eh33 kd902 (cd_o (by decide)) (by decide)) eh40 kd902 (cd_o (by decide)) (by decide)) eh50 kd902 (cd_o (by decide)) (by decide))⟩ (Nat.le_of_ble_eq_true rfl) (Nat.le_of_ble_eq_true rfl) dX3_load_58

set_option maxRecDepth 100000 in
set_option maxHeartbeats 4000000 in
theorem cX3_packed_0 (l : Launch) (G : va_G) (cy : Nat → ClassId) (ev : Ew) (K ln : Nat → Nat) (Ls : List Nat) (hW : SW K ln Ls) (sz : Nat) (hp0 : Nat → Nat → Value) (ok0 : Ok K hp0) (qa900 : Nat) (kd900 : K qa900 = 8) : Met l yX3_packed (WS yX3_packed cX3_packed 1 (some .int)) { frames := 0, cells := 0, slots := 0, locals := 0 } (PB2 [.ref qa900] sz G cy ev (va_pl Ls (cellOf cy K ln hp0))) (QBi (S := (Nat → Nat → Value)) (fun (r : Int32) (u : (Nat → Nat → Value)) => Ok K u ∧ Fr [] K hp0 u ∧ (r = pkf (vI (hp0 qa900 1)) (vI (hp0 qa900 2)))) G (fun u => va_pl Ls (cellOf cy K ln u)) (va_A (va_pl Ls (cellOf cy K ln hp0)) sz)) 0 0 (va_A (va_pl Ls (cellOf cy K ln hp0)) sz) := by
  refine met_of2 (y := yX3_packed) (L := 1) (av := [.ref qa900]) (Qc := fun A => QBi (S := (Nat → Nat → Value)) (fun (r : Int32) (u : (Nat → Nat → Value)) => Ok K u ∧ Fr [] K hp0 u ∧ (r = pkf (vI (hp0 qa900 1)) (vI (hp0 qa900 2)))) G (fun u => va_pl Ls (cellOf cy K ln u)) A) (plainFor_of_name (by decide)) (Nat.le_of_ble_eq_true rfl) ?_
  intro p e s m below meth c hsz hx hb hr hml hown hT hlocks hin hK A hA hE hw hS ls hl
  have hw : PW G cy K ln Ls A hp0 s.heap := hw
  have hown : s.vm.findClass "LieClock$Nodes" = some m.cls := hown
  have hl : lv_has ls 1 [(0, .ref qa900)] := hl
  obtain ⟨Q, hQ⟩ : ∃ Q : State → Prop, Q = MQ below (QBi (S := (Nat → Nat → Value)) (fun (r : Int32) (u : (Nat → Nat → Value)) => Ok K u ∧ Fr [] K hp0 u ∧ (r = pkf (vI (hp0 qa900 1)) (vI (hp0 qa900 2)))) G (fun u => va_pl Ls (cellOf cy K ln u)) A) ([.ref qa900] : List Value).toArray s 0 0 A := ⟨_, rfl⟩
  rw [← hQ]
  refine lv_aload_n hx hb dX3_packed_0 rfl (lv_at hl 0 rfl) ?_
  obtain ⟨zi2, eq1⟩ := rd_8001 ok0 kd900
  refine p_getN (ci := 7) (v := .int zi2) (C := RX7) (T := TX7) (N := 13) hx hb hT iw_X7 hown hK hw hW kd900 (by decide) rfl rfl 1 (by decide) eq1 (hK.fl nw_313) (fun _ h9 => h9) dX3_packed_1 ?_
  refine lv_aload_n hx hb dX3_packed_4 rfl (lv_at hl 0 rfl) ?_
  obtain ⟨zi4, eq3⟩ := rd_8002 ok0 kd900
  refine p_getN (ci := 7) (v := .int zi4) (C := RX7) (T := TX7) (N := 13) hx hb hT iw_X7 hown hK hw hW kd900 (by decide) rfl rfl 2 (by decide) eq3 (hK.fl nw_317) (fun _ h9 => h9) dX3_packed_5 ?_
  refine lv_bipush (v := 16) hx hb dX3_packed_8 (by decide) ?_
  refine lv_ishl hx hb dX3_packed_10 (lv_topi (fun zi5 ea6 => ?_))
  refine lv_ior hx hb dX3_packed_11 (lv_topi (fun zi7 ea8 => ?_))
  rw [hQ]
  exact kz_i hx hb hr hlocks hS rfl hp0 hw ⟨ok0, (Fr.rf), (by rw [eq1, eq3, ea8, ea6]; rfl)⟩ (Nat.le_of_ble_eq_true rfl) (Nat.le_of_ble_eq_true rfl) dX3_packed_12

set_option maxRecDepth 100000 in
set_option maxHeartbeats 4000000 in
theorem cX3_hash_0 (l : Launch) (G : va_G) (cy : Nat → ClassId) (ev : Ew) (K ln : Nat → Nat) (Ls : List Nat) (hW : SW K ln Ls) (sz : Nat) (hp0 : Nat → Nat → Value) (ok0 : Ok K hp0) (zi900 : Int32) (zi901 : Int32) (zi902 : Int32)  : Met l yX3_hash (WS yX3_hash cX3_hash 4 (some .int)) { frames := 0, cells := 0, slots := 0, locals := 0 } (PB2 [.int zi900, .int zi901, .int zi902] sz G cy ev (va_pl Ls (cellOf cy K ln hp0))) (QBi (S := (Nat → Nat → Value)) (fun (r : Int32) (u : (Nat → Nat → Value)) => Ok K u ∧ Fr [] K hp0 u ∧ (r = hshf zi900 zi901 zi902)) G (fun u => va_pl Ls (cellOf cy K ln u)) (va_A (va_pl Ls (cellOf cy K ln hp0)) sz)) 0 0 (va_A (va_pl Ls (cellOf cy K ln hp0)) sz) := by
  refine met_of2 (y := yX3_hash) (L := 4) (av := [.int zi900, .int zi901, .int zi902]) (Qc := fun A => QBi (S := (Nat → Nat → Value)) (fun (r : Int32) (u : (Nat → Nat → Value)) => Ok K u ∧ Fr [] K hp0 u ∧ (r = hshf zi900 zi901 zi902)) G (fun u => va_pl Ls (cellOf cy K ln u)) A) (plainFor_of_name (by decide)) (Nat.le_of_ble_eq_true rfl) ?_
  intro p e s m below meth c hsz hx hb hr hml hown hT hlocks hin hK A hA hE hw hS ls hl
  have hw : PW G cy K ln Ls A hp0 s.heap := hw
  have hown : s.vm.findClass "LieClock$Nodes" = some m.cls := hown
  have hl : lv_has ls 4 [(0, .int zi900), (1, .int zi901), (2, .int zi902)] := hl
  obtain ⟨Q, hQ⟩ : ∃ Q : State → Prop, Q = MQ below (QBi (S := (Nat → Nat → Value)) (fun (r : Int32) (u : (Nat → Nat → Value)) => Ok K u ∧ Fr [] K hp0 u ∧ (r = hshf zi900 zi901 zi902)) G (fun u => va_pl Ls (cellOf cy K ln u)) A) ([.int zi900, .int zi901, .int zi902] : List Value).toArray s 0 0 A := ⟨_, rfl⟩
  rw [← hQ]
  refine lv_iload_n hx hb dX3_hash_0 rfl (lv_at hl 0 rfl) ?_
  refine lv_ldc (v := (-1640531535)) hx hb hown (hT _ tb_1153) dX3_hash_1 ?_
  refine lv_imul hx hb dX3_hash_3 (lv_topi (fun zi1 ea2 => ?_))
  refine lv_iload_n hx hb dX3_hash_4 rfl (lv_at hl 1 rfl) ?_
  refine lv_ldc (v := (-2048144789)) hx hb hown (hT _ tb_1154) dX3_hash_5 ?_
  refine lv_imul hx hb dX3_hash_7 (lv_topi (fun zi3 ea4 => ?_))
  refine lv_iadd hx hb dX3_hash_8 (lv_topi (fun zi5 ea6 => ?_))
  refine lv_iload_n hx hb dX3_hash_9 rfl (lv_at hl 2 rfl) ?_
  refine lv_ldc (v := (-1028477387)) hx hb hown (hT _ tb_1155) dX3_hash_10 ?_
  refine lv_imul hx hb dX3_hash_12 (lv_topi (fun zi7 ea8 => ?_))
  refine lv_iadd hx hb dX3_hash_13 (lv_topi (fun zi9 ea10 => ?_))
  refine lv_istore_n (lv' := [(3, .int zi9), (0, .int zi900), (1, .int zi901), (2, .int zi902)]) hx hb dX3_hash_14 rfl hl (by decide) rfl (fun ls hl => ?_)
  refine lv_iload_n hx hb dX3_hash_15 rfl (lv_at hl 0 rfl) ?_
  refine lv_iload_n hx hb dX3_hash_16 rfl (lv_at hl 0 rfl) ?_
  refine lv_bipush (v := 15) hx hb dX3_hash_17 (by decide) ?_
  refine lv_iushr hx hb dX3_hash_19 rfl (lv_topi (fun zi11 ea12 => ?_))
  refine lv_ixor hx hb dX3_hash_20 (lv_topi (fun zi13 ea14 => ?_))
  rw [hQ]
  exact kz_i hx hb hr hlocks hS rfl hp0 hw ⟨ok0, (Fr.rf), (by simp only [hshf, ea2, ea4, ea6, ea8, ea10, ea12, ea14])⟩ (Nat.le_of_ble_eq_true rfl) (Nat.le_of_ble_eq_true rfl) dX3_hash_21

set_option maxRecDepth 100000 in
set_option maxHeartbeats 4000000 in
theorem cX3_slotOf_0 (l : Launch) (G : va_G) (cy : Nat → ClassId) (ev : Ew) (K ln : Nat → Nat) (Ls : List Nat) (hW : SW K ln Ls) (sz : Nat) (hp0 : Nat → Nat → Value) (ok0 : Ok K hp0) (qa900 : Nat) (qa901 : Nat) (zi902 : Int32) (gn : Nat) (kd900 : K qa900 = 4) (kd901 : K qa901 = 8) (pdNS : NSx K ln hp0 gn) : Met l yX3_slotOf (WS yX3_slotOf cX3_slotOf 9 (some .int)) { frames := 1, cells := 0, slots := 0, locals := 23 } (PB2 [.ref qa900, .ref qa901, .int zi902] sz G cy ev (va_pl Ls (cellOf cy K ln hp0))) (QBi (S := (Nat → Nat → Value)) (fun (r : Int32) (u : (Nat → Nat → Value)) => Ok K u ∧ Fr [] K hp0 u ∧ ((-1 : Int) ≤ r.toInt ∧ r.toInt ≤ 262143) ∧ (SLr hp0 qa900 qa901 gn zi902 r) ∧ (r.toInt < 2 * (gn : Int))) G (fun u => va_pl Ls (cellOf cy K ln u)) (va_A (va_pl Ls (cellOf cy K ln hp0)) sz)) 0 0 (va_A (va_pl Ls (cellOf cy K ln hp0)) sz) := by
  refine met_of2 (y := yX3_slotOf) (L := 9) (av := [.ref qa900, .ref qa901, .int zi902]) (Qc := fun A => QBi (S := (Nat → Nat → Value)) (fun (r : Int32) (u : (Nat → Nat → Value)) => Ok K u ∧ Fr [] K hp0 u ∧ ((-1 : Int) ≤ r.toInt ∧ r.toInt ≤ 262143) ∧ (SLr hp0 qa900 qa901 gn zi902 r) ∧ (r.toInt < 2 * (gn : Int))) G (fun u => va_pl Ls (cellOf cy K ln u)) A) (plainFor_of_name (by decide)) (Nat.le_of_ble_eq_true rfl) ?_
  intro p e s m below meth c hsz hx hb hr hml hown hT hlocks hin hK A hA hE hw hS ls hl
  have hw : PW G cy K ln Ls A hp0 s.heap := hw
  have hown : s.vm.findClass "LieClock$Nodes" = some m.cls := hown
  have hl : lv_has ls 9 [(0, .ref qa900), (1, .ref qa901), (2, .int zi902)] := hl
  obtain ⟨Q, hQ⟩ : ∃ Q : State → Prop, Q = MQ below (QBi (S := (Nat → Nat → Value)) (fun (r : Int32) (u : (Nat → Nat → Value)) => Ok K u ∧ Fr [] K hp0 u ∧ ((-1 : Int) ≤ r.toInt ∧ r.toInt ≤ 262143) ∧ (SLr hp0 qa900 qa901 gn zi902 r) ∧ (r.toInt < 2 * (gn : Int))) G (fun u => va_pl Ls (cellOf cy K ln u)) A) ([.ref qa900, .ref qa901, .int zi902] : List Value).toArray s 0 0 A := ⟨_, rfl⟩
  rw [← hQ]
  have hgn := NSx.bd pdNS
  refine lv_aload_n hx hb dX3_slotOf_0 rfl (lv_at hl 1 rfl) ?_
  refine kq_i hw hS hA (va_runS (As := [.ref qa901]) (rest := []) ⟨hx, hb, hml, hown, hT⟩ (cX3_packed_0 l G cy ev K ln Ls hW _ hp0 ok0 qa901 kd901) (va_cwS 1 hT (good_S tb_1149 tb_1147 tb_1148 tb_117) rfl rfl rfl (by decide +kernel) ⟨Nat.le_of_ble_eq_true rfl, Nat.le_of_ble_eq_true rfl⟩) (PB2.preS hK hE hS hA hw) rfl rfl hl.1 rfl (lv_room (Nat.le_of_ble_eq_true rfl)) dX3_slotOf_1 ⟨Nat.le_of_ble_eq_true rfl, Nat.le_of_ble_eq_true rfl⟩) (fun zi5 hp1 H locs hq4 hw hS => ?_)
  obtain ⟨ok2, F3, xq6⟩ := hq4
  obtain rfl : hp0 = hp1 := (Fr.nil F3).symm
  have hw : PW G cy K ln Ls A hp0 H := hw
  refine lv_istore_n (lv' := [(3, .int zi5), (0, .ref qa900), (1, .ref qa901), (2, .int zi902)]) hx hb dX3_slotOf_4 rfl hl (by decide) rfl (fun ls hl => ?_)
  refine lv_aload_n hx hb dX3_slotOf_5 rfl (lv_at hl 1 rfl) ?_
  obtain ⟨qa8, eq7, kd9⟩ := rd_4005 ok0 kd900
  have ln10 := (pdNS).tab kd900 eq7
  refine p_get (ci := 3) (v := .ref qa8) (C := RX3) (T := TX3) (N := 7) hx hb hT iw_X3 hown hK hw hW kd900 (by decide) rfl rfl 5 (by decide) eq7 (hT _ tb_502) (fun _ h9 => h9) dX3_slotOf_6 ?_
  obtain ⟨zi11, ez12⟩ : ∃ z : Int32, Int32.ofNat (ln qa8) = z := ⟨_, rfl⟩
  refine p_alen (v := zi11) hx hb hK hw hW kd9 (by decide) rfl rfl ez12 dX3_slotOf_9 ?_
  have hl13 : zi11.toInt = (2 * gn : Nat) := by have h9 := ofNat_len ez12 (by rw [ln10]; omega); rw [ln10] at h9; exact h9
  have bd14 : (512 : Int) ≤ zi11.toInt ∧ zi11.toInt ≤ 262144 := (by omega)
  refine lv_iconst (v := 1) hx hb dX3_slotOf_10 (by decide) ?_
  refine lv_isub hx hb dX3_slotOf_11 (lv_topi (fun zi15 ea16 => ?_))
  have bd17 : (511 : Int) ≤ zi15.toInt ∧ zi15.toInt ≤ 262143 := b_isub ea16 bd14 bc_1 (by decide) (by decide) (by decide) (by decide)
  have qe18 : zi15.toInt = (zi11 : Int32).toInt - (1 : Int32).toInt := e_isub ea16 bd14 bc_1 (by decide) (by decide)
  have qe19 : zi15.toInt = zi11.toInt - 1 := by have ha : (1 : Int32).toInt = 1 := (by decide); rw [ha] at qe18; exact qe18
  refine lv_istore (lv' := [(4, .int zi15), (3, .int zi5), (0, .ref qa900), (1, .ref qa901), (2, .int zi902)]) hx hb dX3_slotOf_12 hl (by decide) rfl (fun ls hl => ?_)
  refine lv_iload_n hx hb dX3_slotOf_14 rfl (lv_at hl 1 rfl) ?_
  refine lv_aload_n hx hb dX3_slotOf_15 rfl (lv_at hl 3 rfl) ?_
  obtain ⟨zi21, eq20⟩ := rd_8000 ok0 kd901
  refine p_getN (ci := 7) (v := .int zi21) (C := RX7) (T := TX7) (N := 13) hx hb hT iw_X7 hown hK hw hW kd901 (by decide) rfl rfl 0 (by decide) eq20 (hK.fl nw_308) (fun _ h9 => h9) dX3_slotOf_16 ?_
  refine lv_aload_n hx hb dX3_slotOf_19 rfl (lv_at hl 3 rfl) ?_
  obtain ⟨zi23, eq22⟩ := rd_8004 ok0 kd901
  refine p_getN (ci := 7) (v := .int zi23) (C := RX7) (T := TX7) (N := 13) hx hb hT iw_X7 hown hK hw hW kd901 (by decide) rfl rfl 4 (by decide) eq22 (hK.fl nw_323) (fun _ h9 => h9) dX3_slotOf_20 ?_
  refine kq_i hw hS hA (va_runS (As := [.int zi5, .int zi21, .int zi23]) (rest := []) ⟨hx, hb, hml, hown, hT⟩ (cX3_hash_0 l G cy ev K ln Ls hW _ hp0 ok0 zi5 zi21 zi23) (va_cwS 3 hT (good_S tb_1152 tb_1150 tb_1151 tb_117) rfl rfl rfl (by decide +kernel) ⟨Nat.le_of_ble_eq_true rfl, Nat.le_of_ble_eq_true rfl⟩) (PB2.preS hK hE hS hA hw) rfl rfl hl.1 rfl (lv_room (Nat.le_of_ble_eq_true rfl)) dX3_slotOf_23 ⟨Nat.le_of_ble_eq_true rfl, Nat.le_of_ble_eq_true rfl⟩) (fun zi28 hp24 H locs hq27 hw hS => ?_)
  obtain ⟨ok25, F26, xq29⟩ := hq27
  obtain rfl : hp0 = hp24 := (Fr.nil F26).symm
  have hw : PW G cy K ln Ls A hp0 H := hw
  refine lv_istore (lv' := [(5, .int zi28), (4, .int zi15), (3, .int zi5), (0, .ref qa900), (1, .ref qa901), (2, .int zi902)]) hx hb dX3_slotOf_26 hl (by decide) rfl (fun ls hl => ?_)
  have hpk : pkf (vI (hp0 qa901 1)) (vI (hp0 qa901 2)) = zi5 := Eq.symm xq6
  have hck : vI (hp0 qa901 0) = zi21 := by rw [eq20]; rfl
  have hhd : vI (hp0 qa901 4) = zi23 := by rw [eq22]; rfl
  have hst : hshf zi5 zi21 zi23 = zi28 := Eq.symm xq29
  have hmk : Int32.ofNat (2 * gn) - 1 = zi15 := by rw [← ln10, ez12]; exact Eq.symm ea16
  refine lv_iconst (v := 0) hx hb dX3_slotOf_28 (by decide) ?_
  refine lv_istore (lv' := [(6, .int 0), (5, .int zi28), (4, .int zi15), (3, .int zi5), (0, .ref qa900), (1, .ref qa901), (2, .int zi902)]) hx hb dX3_slotOf_29 hl (by decide) rfl (fun ls hl => ?_)
  have lp449 : ∀ (n447 : Nat) (zi240 : Int32) (H : Heap) (locs : List Loc) (ls : Array Slot), 262144 - zi240.toInt < (n447 : Int) → ((0 : Int) ≤ zi240.toInt ∧ zi240.toInt ≤ 262144) → (∀ k : Int32, 0 ≤ k.toInt → k.toInt < (zi240 : Int32).toInt → ¬ SLt hp0 qa900 zi902 zi5 zi21 zi23 zi28 zi15 k) → lv_has ls 9 [(0, .ref qa900), (1, .ref qa901), (2, .int zi902), (3, .int zi5), (4, .int zi15), (5, .int zi28), (6, .int zi240)] → PW G cy K ln Ls A hp0 H → va_S A s.heap H locs → W p l e ({ frames := 1, cells := 0, slots := 0, locals := 23 } : Room) s m ([.ref qa900, .ref qa901, .int zi902] : List Value).toArray below meth c H locs 0 0 Q (F0 m 31 ls []) := by
    intro n447
    induction n447 with
    | zero =>
      intro zi240 H locs ls hm450 bd242 jx241 hl hw hS
      exact absurd hm450 (by have := bd242; omega)
    | succ n447 ih448 =>
      intro zi240 H locs ls hm450 bd242 jx241 hl hw hS
      refine lv_iload hx hb dX3_slotOf_31 (lv_at hl 6 rfl) ?_
      refine lv_aload_n hx hb dX3_slotOf_33 rfl (lv_at hl 0 rfl) ?_
      refine p_get (ci := 3) (v := .ref qa8) (C := RX3) (T := TX3) (N := 7) hx hb hT iw_X3 hown hK hw hW kd900 (by decide) rfl rfl 5 (by decide) eq7 (hT _ tb_502) (fun _ h9 => h9) dX3_slotOf_34 ?_
      obtain ⟨zi451, ez452⟩ : ∃ z : Int32, Int32.ofNat (ln qa8) = z := ⟨_, rfl⟩
      refine p_alen (v := zi451) hx hb hK hw hW kd9 (by decide) rfl rfl ez452 dX3_slotOf_37 ?_
      have hl453 : zi451.toInt = (2 * gn : Nat) := by have h9 := ofNat_len ez452 (by rw [ln10]; omega); rw [ln10] at h9; exact h9
      have bd454 : (512 : Int) ≤ zi451.toInt ∧ zi451.toInt ≤ 262144 := (by omega)
      refine lv_icmp_ge (tgt := 121) hx hb dX3_slotOf_38 (by decide) (fun cn455 => ?_) (fun cn455 => ?_)
      · skip
        have tf456 : zi451.toInt ≤ zi240.toInt := (fa_le _ _).mp cn455
        have bd457 : (512 : Int) ≤ zi240.toInt ∧ zi240.toInt ≤ 262144 := r_le_y cn455 bd454 bd242 (by decide) (by decide)
        refine lv_iconst (v := (-1)) hx hb dX3_slotOf_121 (by decide) ?_
        rw [hQ]
        exact kz_i hx hb hr hlocks hS rfl hp0 hw ⟨ok0, (Fr.rf), (b_wid2 bc_m1 (by decide) (by decide)), (by unfold SLr; rw [hpk, hck, hhd, hst, hmk]; exact Or.inr ⟨fun k h1 h2 => jx241 k h1 (by omega), rfl⟩), (by have := toi bc_m1; omega)⟩ (Nat.le_of_ble_eq_true rfl) (Nat.le_of_ble_eq_true rfl) dX3_slotOf_122
      · skip
        have tf458 : zi240.toInt < zi451.toInt := (fa_lt _ _).mp (Int32.not_le.mp cn455)
        have bd459 : (0 : Int) ≤ zi240.toInt ∧ zi240.toInt ≤ 262143 := r_lt_x (Int32.not_le.mp cn455) bd242 bd454 (by decide) (by decide)
        refine lv_iload hx hb dX3_slotOf_41 (lv_at hl 5 rfl) ?_
        refine lv_iload hx hb dX3_slotOf_43 (lv_at hl 6 rfl) ?_
        refine lv_iadd hx hb dX3_slotOf_45 (lv_topi (fun zi460 ea461 => ?_))
        refine lv_iload hx hb dX3_slotOf_46 (lv_at hl 4 rfl) ?_
        refine lv_iand hx hb dX3_slotOf_48 (lv_topi (fun zi462 ea463 => ?_))
        have an464 := b_and_r (c := zi15.toInt) (d := zi15.toInt) (lo := 0) (hi := zi15.toInt) ea463 ⟨Int.le_refl _, Int.le_refl _⟩ (by omega) (by omega) (by omega)
        have bd465 : (0 : Int) ≤ zi462.toInt ∧ zi462.toInt ≤ 262143 := b_and_r ea463 bd17 (by decide) (by decide) (by decide)
        refine lv_istore (lv' := [(7, .int zi462), (0, .ref qa900), (1, .ref qa901), (2, .int zi902), (3, .int zi5), (4, .int zi15), (5, .int zi28), (6, .int zi240)]) hx hb dX3_slotOf_49 hl (by decide) rfl (fun ls hl => ?_)
        refine lv_aload_n hx hb dX3_slotOf_51 rfl (lv_at hl 1 rfl) ?_
        refine p_get (ci := 3) (v := .ref qa8) (C := RX3) (T := TX3) (N := 7) hx hb hT iw_X3 hown hK hw hW kd900 (by decide) rfl rfl 5 (by decide) eq7 (hT _ tb_502) (fun _ h9 => h9) dX3_slotOf_52 ?_
        refine lv_iload hx hb dX3_slotOf_55 (lv_at hl 0 rfl) ?_
        obtain ⟨zi467, eq466, bd468⟩ := rd_33000 ok0 kd9 ((zi462 : Int32).toNatClampNeg)
        have nz469 := (pdNS).elt kd900 eq7 (vp_bv (by omega) (by omega)) eq466
        refine p_iald (v := zi467) hx hb hK hw hW kd9 (by decide) rfl ln10 (vp_bv (by omega) (by omega)) eq466 dX3_slotOf_57 ?_
        refine lv_iconst (v := 1) hx hb dX3_slotOf_58 (by decide) ?_
        refine lv_isub hx hb dX3_slotOf_59 (lv_topi (fun zi470 ea471 => ?_))
        have bd472 : (-1 : Int) ≤ zi470.toInt ∧ zi470.toInt ≤ 131071 := b_isub ea471 bd468 bc_1 (by decide) (by decide) (by decide) (by decide)
        have qe473 : zi470.toInt = (zi467 : Int32).toInt - (1 : Int32).toInt := e_isub ea471 bd468 bc_1 (by decide) (by decide)
        have qe474 : zi470.toInt = zi467.toInt - 1 := by have ha : (1 : Int32).toInt = 1 := (by decide); rw [ha] at qe473; exact qe473
        refine lv_istore (lv' := [(8, .int zi470), (7, .int zi462), (0, .ref qa900), (1, .ref qa901), (2, .int zi902), (3, .int zi5), (4, .int zi15), (5, .int zi28), (6, .int zi240)]) hx hb dX3_slotOf_60 hl (by decide) rfl (fun ls hl => ?_)
        have ht475 : mA hp0 qa900 5 ((zi28 + zi240) &&& zi15).toNatClampNeg = zi467.toInt := by rw [← ea461, ← ea463]; exact mA_of eq7 eq466
        refine lv_iload hx hb dX3_slotOf_62 (lv_at hl 0 rfl) ?_
        refine lv_if_lt (tgt := 112) hx hb dX3_slotOf_64 (by decide) (fun cn476 => ?_) (fun cn476 => ?_)
        · skip
          have bd477 : (-1 : Int) ≤ zi470.toInt ∧ zi470.toInt ≤ -1 := r_lt_x cn476 bd472 bc_0 (by decide) (by decide)
          have bd478 : (0 : Int) ≤ zi467.toInt ∧ zi467.toInt ≤ 0 := (by have := qe474; have := bd477; have := bd468; have := bc_1; omega)
          refine lv_iload hx hb dX3_slotOf_112 (lv_at hl 1 rfl) ?_
          rw [hQ]
          exact kz_i hx hb hr hlocks hS rfl hp0 hw ⟨ok0, (Fr.rf), (b_wid2 bd465 (by decide) (by decide)), (by unfold SLr; rw [hpk, hck, hhd, hst, hmk]; exact Or.inl ⟨zi240, by omega, by omega, jx241, by unfold SLt; rw [ht475]; exact Or.inl (by omega), by rw [← ea461]; exact ea463⟩), (by omega)⟩ (Nat.le_of_ble_eq_true rfl) (Nat.le_of_ble_eq_true rfl) dX3_slotOf_114
        · skip
          have bd479 : (0 : Int) ≤ zi470.toInt ∧ zi470.toInt ≤ 131071 := r_le_y (Int32.not_lt.mp cn476) bc_0 bd472 (by decide) (by decide)
          have bd480 : (1 : Int) ≤ zi467.toInt ∧ zi467.toInt ≤ 131072 := (by have := qe474; have := bd479; have := bd468; have := bc_1; omega)
          refine lv_iload hx hb dX3_slotOf_67 (lv_at hl 0 rfl) ?_
          refine lv_iload_n hx hb dX3_slotOf_69 rfl (lv_at hl 4 rfl) ?_
          refine lv_icmp_lt (tgt := 115) hx hb dX3_slotOf_70 (by decide) (fun cn481 => ?_) (fun cn481 => ?_)
          · skip
            have tf482 : zi470.toInt < zi902.toInt := (fa_lt _ _).mp cn481
            have bd483 : (1 : Int) ≤ zi902.toInt ∧ zi902.toInt ≤ 2147483647 := r_lt_y cn481 bd479 (b_all zi902) (by decide) (by decide)
            obtain ⟨qa486, eq485, kd487⟩ := rd_4000 ok0 kd900
            have ln488 := (pdNS).ref kd900 (by decide) eq485
            have ns484 : ¬ SLt hp0 qa900 zi902 zi5 zi21 zi23 zi28 zi15 zi240 := by
              unfold SLt
              rw [ht475]
              intro q
              rcases q with q | ⟨q1, q2, q3, q4⟩
              · omega
              · omega
            obtain ⟨zi489, ea490⟩ : ∃ z : Int32, z = zi240 + 1 := ⟨_, rfl⟩
            have bd491 : (1 : Int) ≤ zi489.toInt ∧ zi489.toInt ≤ 262144 := b_iadd ea490 bd459 bc_1 (by decide) (by decide) (by decide) (by decide)
            have qe492 : zi489.toInt = (zi240 : Int32).toInt + (1 : Int32).toInt := e_iadd ea490 bd459 bc_1 (by decide) (by decide)
            have qe493 : zi489.toInt = zi240.toInt + 1 := by have ha : (1 : Int32).toInt = 1 := (by decide); rw [ha] at qe492; exact qe492
            refine lv_iinc (v := zi489) (lv' := [(6, .int zi489), (8, .int zi470), (7, .int zi462), (0, .ref qa900), (1, .ref qa901), (2, .int zi902), (3, .int zi5), (4, .int zi15), (5, .int zi28)]) hx hb dX3_slotOf_115 hl (k := 8) rfl ea490.symm (by decide) rfl (fun ls hl => ?_)
            have sj494 := SL_next jx241 ns484 qe493
            refine lv_goto (tgt := 31) hx hb dX3_slotOf_118 (by decide) ?_
            exact ih448 zi489 _ _ ls (by have := hm450; have := qe493; omega) (b_wid2 bd491 (by decide) (by decide)) sj494 (lv_sub hl [3, 4, 5, 6, 7, 8, 0] rfl) hw hS
          · skip
            have tf495 : zi902.toInt ≤ zi470.toInt := (fa_le _ _).mp (Int32.not_lt.mp cn481)
            have bd496 : (-2147483648 : Int) ≤ zi902.toInt ∧ zi902.toInt ≤ 131071 := r_le_x (Int32.not_lt.mp cn481) (b_all zi902) bd479 (by decide) (by decide)
            refine lv_aload_n hx hb dX3_slotOf_73 rfl (lv_at hl 2 rfl) ?_
            obtain ⟨qa498, eq497, kd499⟩ := rd_4000 ok0 kd900
            have ln500 := (pdNS).ref kd900 (by decide) eq497
            refine p_get (ci := 3) (v := .ref qa498) (C := RX3) (T := TX3) (N := 7) hx hb hT iw_X3 hown hK hw hW kd900 (by decide) rfl rfl 0 (by decide) eq497 (hT _ tb_492) (fun _ h9 => h9) dX3_slotOf_74 ?_
            refine lv_iload hx hb dX3_slotOf_77 (lv_at hl 0 rfl) ?_
            obtain ⟨zi502, eq501⟩ := rd_28000 ok0 kd499 ((zi470 : Int32).toNatClampNeg)
            refine p_iald (v := zi502) hx hb hK hw hW kd499 (by decide) rfl ln500 (vp_bv (by omega) (by omega)) eq501 dX3_slotOf_79 ?_
            refine lv_iload_n hx hb dX3_slotOf_80 rfl (lv_at hl 5 rfl) ?_
            refine lv_icmp_ne (tgt := 115) hx hb dX3_slotOf_81 (by decide) (fun cn503 => ?_) (fun cn503 => ?_)
            · skip
              have tf504 : (zi502 : Int32).toInt ≠ (zi5 : Int32).toInt := fun e => cn503 (Int32.toInt_inj.mp e)
              obtain ⟨qa507, eq506, kd508⟩ := rd_4001 ok0 kd900
              have ln509 := (pdNS).ref kd900 (by decide) eq506
              have ns505 : ¬ SLt hp0 qa900 zi902 zi5 zi21 zi23 zi28 zi15 zi240 := by
                unfold SLt
                rw [ht475]
                intro q
                rcases q with q | ⟨q1, q2, q3, q4⟩
                · omega
                · rw [show (zi467.toInt - 1).toNat = (zi470 : Int32).toNatClampNeg from by have := clampN (x := zi470) (by omega); omega, mA_of eq497 eq501] at q2
                  omega
              obtain ⟨zi510, ea511⟩ : ∃ z : Int32, z = zi240 + 1 := ⟨_, rfl⟩
              have bd512 : (1 : Int) ≤ zi510.toInt ∧ zi510.toInt ≤ 262144 := b_iadd ea511 bd459 bc_1 (by decide) (by decide) (by decide) (by decide)
              have qe513 : zi510.toInt = (zi240 : Int32).toInt + (1 : Int32).toInt := e_iadd ea511 bd459 bc_1 (by decide) (by decide)
              have qe514 : zi510.toInt = zi240.toInt + 1 := by have ha : (1 : Int32).toInt = 1 := (by decide); rw [ha] at qe513; exact qe513
              refine lv_iinc (v := zi510) (lv' := [(6, .int zi510), (8, .int zi470), (7, .int zi462), (0, .ref qa900), (1, .ref qa901), (2, .int zi902), (3, .int zi5), (4, .int zi15), (5, .int zi28)]) hx hb dX3_slotOf_115 hl (k := 8) rfl ea511.symm (by decide) rfl (fun ls hl => ?_)
              have sj515 := SL_next jx241 ns505 qe514
              refine lv_goto (tgt := 31) hx hb dX3_slotOf_118 (by decide) ?_
              exact ih448 zi510 _ _ ls (by have := hm450; have := qe514; omega) (b_wid2 bd512 (by decide) (by decide)) sj515 (lv_sub hl [3, 4, 5, 6, 7, 8, 0] rfl) hw hS
            · skip
              have tf516 : zi502.toInt = zi5.toInt := congrArg Int32.toInt cn503
              refine lv_aload_n hx hb dX3_slotOf_84 rfl (lv_at hl 2 rfl) ?_
              obtain ⟨qa518, eq517, kd519⟩ := rd_4001 ok0 kd900
              have ln520 := (pdNS).ref kd900 (by decide) eq517
              refine p_get (ci := 3) (v := .ref qa518) (C := RX3) (T := TX3) (N := 7) hx hb hT iw_X3 hown hK hw hW kd900 (by decide) rfl rfl 1 (by decide) eq517 (hT _ tb_495) (fun _ h9 => h9) dX3_slotOf_85 ?_
              refine lv_iload hx hb dX3_slotOf_88 (lv_at hl 0 rfl) ?_
              obtain ⟨zi522, eq521⟩ := rd_29000 ok0 kd519 ((zi470 : Int32).toNatClampNeg)
              refine p_iald (v := zi522) hx hb hK hw hW kd519 (by decide) rfl ln520 (vp_bv (by omega) (by omega)) eq521 dX3_slotOf_90 ?_
              refine lv_aload_n hx hb dX3_slotOf_91 rfl (lv_at hl 3 rfl) ?_
              refine p_getN (ci := 7) (v := .int zi21) (C := RX7) (T := TX7) (N := 13) hx hb hT iw_X7 hown hK hw hW kd901 (by decide) rfl rfl 0 (by decide) eq20 (hK.fl nw_308) (fun _ h9 => h9) dX3_slotOf_92 ?_
              refine lv_icmp_ne (tgt := 115) hx hb dX3_slotOf_95 (by decide) (fun cn523 => ?_) (fun cn523 => ?_)
              · skip
                have tf524 : (zi522 : Int32).toInt ≠ (zi21 : Int32).toInt := fun e => cn523 (Int32.toInt_inj.mp e)
                obtain ⟨qa527, eq526, kd528⟩ := rd_4002 ok0 kd900
                have ln529 := (pdNS).ref kd900 (by decide) eq526
                have ns525 : ¬ SLt hp0 qa900 zi902 zi5 zi21 zi23 zi28 zi15 zi240 := by
                  unfold SLt
                  rw [ht475]
                  intro q
                  rcases q with q | ⟨q1, q2, q3, q4⟩
                  · omega
                  · rw [show (zi467.toInt - 1).toNat = (zi470 : Int32).toNatClampNeg from by have := clampN (x := zi470) (by omega); omega, mA_of eq497 eq501] at q2
                    rw [show (zi467.toInt - 1).toNat = (zi470 : Int32).toNatClampNeg from by have := clampN (x := zi470) (by omega); omega, mA_of eq517 eq521] at q3
                    omega
                obtain ⟨zi530, ea531⟩ : ∃ z : Int32, z = zi240 + 1 := ⟨_, rfl⟩
                have bd532 : (1 : Int) ≤ zi530.toInt ∧ zi530.toInt ≤ 262144 := b_iadd ea531 bd459 bc_1 (by decide) (by decide) (by decide) (by decide)
                have qe533 : zi530.toInt = (zi240 : Int32).toInt + (1 : Int32).toInt := e_iadd ea531 bd459 bc_1 (by decide) (by decide)
                have qe534 : zi530.toInt = zi240.toInt + 1 := by have ha : (1 : Int32).toInt = 1 := (by decide); rw [ha] at qe533; exact qe533
                refine lv_iinc (v := zi530) (lv' := [(6, .int zi530), (8, .int zi470), (7, .int zi462), (0, .ref qa900), (1, .ref qa901), (2, .int zi902), (3, .int zi5), (4, .int zi15), (5, .int zi28)]) hx hb dX3_slotOf_115 hl (k := 8) rfl ea531.symm (by decide) rfl (fun ls hl => ?_)
                have sj535 := SL_next jx241 ns525 qe534
                refine lv_goto (tgt := 31) hx hb dX3_slotOf_118 (by decide) ?_
                exact ih448 zi530 _ _ ls (by have := hm450; have := qe534; omega) (b_wid2 bd532 (by decide) (by decide)) sj535 (lv_sub hl [3, 4, 5, 6, 7, 8, 0] rfl) hw hS
              · skip
                have tf536 : zi522.toInt = zi21.toInt := congrArg Int32.toInt cn523
                refine lv_aload_n hx hb dX3_slotOf_98 rfl (lv_at hl 2 rfl) ?_
                obtain ⟨qa538, eq537, kd539⟩ := rd_4002 ok0 kd900
                have ln540 := (pdNS).ref kd900 (by decide) eq537
                refine p_get (ci := 3) (v := .ref qa538) (C := RX3) (T := TX3) (N := 7) hx hb hT iw_X3 hown hK hw hW kd900 (by decide) rfl rfl 2 (by decide) eq537 (hT _ tb_497) (fun _ h9 => h9) dX3_slotOf_99 ?_
                refine lv_iload hx hb dX3_slotOf_102 (lv_at hl 0 rfl) ?_
                obtain ⟨zi542, eq541⟩ := rd_30000 ok0 kd539 ((zi470 : Int32).toNatClampNeg)
                refine p_iald (v := zi542) hx hb hK hw hW kd539 (by decide) rfl ln540 (vp_bv (by omega) (by omega)) eq541 dX3_slotOf_104 ?_
                refine lv_aload_n hx hb dX3_slotOf_105 rfl (lv_at hl 3 rfl) ?_
                refine p_getN (ci := 7) (v := .int zi23) (C := RX7) (T := TX7) (N := 13) hx hb hT iw_X7 hown hK hw hW kd901 (by decide) rfl rfl 4 (by decide) eq22 (hK.fl nw_323) (fun _ h9 => h9) dX3_slotOf_106 ?_
                refine lv_icmp_ne (tgt := 115) hx hb dX3_slotOf_109 (by decide) (fun cn543 => ?_) (fun cn543 => ?_)
                · skip
                  have tf544 : (zi542 : Int32).toInt ≠ (zi23 : Int32).toInt := fun e => cn543 (Int32.toInt_inj.mp e)
                  have ns545 : ¬ SLt hp0 qa900 zi902 zi5 zi21 zi23 zi28 zi15 zi240 := by
                    unfold SLt
                    rw [ht475]
                    intro q
                    rcases q with q | ⟨q1, q2, q3, q4⟩
                    · omega
                    · rw [show (zi467.toInt - 1).toNat = (zi470 : Int32).toNatClampNeg from by have := clampN (x := zi470) (by omega); omega, mA_of eq497 eq501] at q2
                      rw [show (zi467.toInt - 1).toNat = (zi470 : Int32).toNatClampNeg from by have := clampN (x := zi470) (by omega); omega, mA_of eq517 eq521] at q3
                      rw [show (zi467.toInt - 1).toNat = (zi470 : Int32).toNatClampNeg from by have := clampN (x := zi470) (by omega); omega, mA_of eq537 eq541] at q4
                      omega
                  obtain ⟨zi546, ea547⟩ : ∃ z : Int32, z = zi240 + 1 := ⟨_, rfl⟩
                  have bd548 : (1 : Int) ≤ zi546.toInt ∧ zi546.toInt ≤ 262144 := b_iadd ea547 bd459 bc_1 (by decide) (by decide) (by decide) (by decide)
                  have qe549 : zi546.toInt = (zi240 : Int32).toInt + (1 : Int32).toInt := e_iadd ea547 bd459 bc_1 (by decide) (by decide)
                  have qe550 : zi546.toInt = zi240.toInt + 1 := by have ha : (1 : Int32).toInt = 1 := (by decide); rw [ha] at qe549; exact qe549
                  refine lv_iinc (v := zi546) (lv' := [(6, .int zi546), (8, .int zi470), (7, .int zi462), (0, .ref qa900), (1, .ref qa901), (2, .int zi902), (3, .int zi5), (4, .int zi15), (5, .int zi28)]) hx hb dX3_slotOf_115 hl (k := 8) rfl ea547.symm (by decide) rfl (fun ls hl => ?_)
                  have sj551 := SL_next jx241 ns545 qe550
                  refine lv_goto (tgt := 31) hx hb dX3_slotOf_118 (by decide) ?_
                  exact ih448 zi546 _ _ ls (by have := hm450; have := qe550; omega) (b_wid2 bd548 (by decide) (by decide)) sj551 (lv_sub hl [3, 4, 5, 6, 7, 8, 0] rfl) hw hS
                · skip
                  have tf552 : zi542.toInt = zi23.toInt := congrArg Int32.toInt cn543
                  refine lv_iload hx hb dX3_slotOf_112 (lv_at hl 1 rfl) ?_
                  rw [hQ]
                  exact kz_i hx hb hr hlocks hS rfl hp0 hw ⟨ok0, (Fr.rf), (b_wid2 bd465 (by decide) (by decide)), (by unfold SLr; rw [hpk, hck, hhd, hst, hmk]; exact Or.inl ⟨zi240, by omega, by omega, jx241, by unfold SLt; rw [ht475]; exact Or.inr ⟨by omega, by rw [show (zi467.toInt - 1).toNat = (zi470 : Int32).toNatClampNeg from by have := clampN (x := zi470) (by omega); omega, mA_of eq497 eq501]; omega, by rw [show (zi467.toInt - 1).toNat = (zi470 : Int32).toNatClampNeg from by have := clampN (x := zi470) (by omega); omega, mA_of eq517 eq521]; omega, by rw [show (zi467.toInt - 1).toNat = (zi470 : Int32).toNatClampNeg from by have := clampN (x := zi470) (by omega); omega, mA_of eq537 eq541]; omega⟩, by rw [← ea461]; exact ea463⟩), (by omega)⟩ (Nat.le_of_ble_eq_true rfl) (Nat.le_of_ble_eq_true rfl) dX3_slotOf_114
  exact lp449 _ 0 _ _ ls (lp_in _) (b_wid2 bc_0 (by decide) (by decide)) (fun k h1 h2 => absurd h2 (by have := toi bc_0; omega)) (lv_sub hl [4, 5, 6, 3, 2, 1, 0] rfl) hw hS

set_option maxRecDepth 100000 in
set_option maxHeartbeats 4000000 in
theorem cX3_freeSlot_0 (l : Launch) (G : va_G) (cy : Nat → ClassId) (ev : Ew) (K ln : Nat → Nat) (Ls : List Nat) (hW : SW K ln Ls) (sz : Nat) (hp0 : Nat → Nat → Value) (ok0 : Ok K hp0) (qa900 : Nat) (zi901 : Int32) (gn : Nat) (kd900 : K qa900 = 4) (pdNS : NSx K ln hp0 gn) : Met l yX3_freeSlot (WS yX3_freeSlot cX3_freeSlot 4 (some .int)) { frames := 0, cells := 0, slots := 0, locals := 0 } (PB2 [.ref qa900, .int zi901] sz G cy ev (va_pl Ls (cellOf cy K ln hp0))) (QBi (S := (Nat → Nat → Value)) (fun (r : Int32) (u : (Nat → Nat → Value)) => Ok K u ∧ Fr [] K hp0 u ∧ ((0 : Int) ≤ r.toInt ∧ r.toInt ≤ 262143) ∧ (r.toInt < 2 * (gn : Int))) G (fun u => va_pl Ls (cellOf cy K ln u)) (va_A (va_pl Ls (cellOf cy K ln hp0)) sz)) 0 0 (va_A (va_pl Ls (cellOf cy K ln hp0)) sz) := by
  refine met_of2 (y := yX3_freeSlot) (L := 4) (av := [.ref qa900, .int zi901]) (Qc := fun A => QBi (S := (Nat → Nat → Value)) (fun (r : Int32) (u : (Nat → Nat → Value)) => Ok K u ∧ Fr [] K hp0 u ∧ ((0 : Int) ≤ r.toInt ∧ r.toInt ≤ 262143) ∧ (r.toInt < 2 * (gn : Int))) G (fun u => va_pl Ls (cellOf cy K ln u)) A) (plainFor_of_name (by decide)) (Nat.le_of_ble_eq_true rfl) ?_
  intro p e s m below meth c hsz hx hb hr hml hown hT hlocks hin hK A hA hE hw hS ls hl
  have hw : PW G cy K ln Ls A hp0 s.heap := hw
  have hown : s.vm.findClass "LieClock$Nodes" = some m.cls := hown
  have hl : lv_has ls 4 [(0, .ref qa900), (1, .int zi901)] := hl
  obtain ⟨Q, hQ⟩ : ∃ Q : State → Prop, Q = MQ below (QBi (S := (Nat → Nat → Value)) (fun (r : Int32) (u : (Nat → Nat → Value)) => Ok K u ∧ Fr [] K hp0 u ∧ ((0 : Int) ≤ r.toInt ∧ r.toInt ≤ 262143) ∧ (r.toInt < 2 * (gn : Int))) G (fun u => va_pl Ls (cellOf cy K ln u)) A) ([.ref qa900, .int zi901] : List Value).toArray s 0 0 A := ⟨_, rfl⟩
  rw [← hQ]
  have hgn := NSx.bd pdNS
  refine lv_aload_n hx hb dX3_freeSlot_0 rfl (lv_at hl 0 rfl) ?_
  obtain ⟨qa2, eq1, kd3⟩ := rd_4005 ok0 kd900
  have ln4 := (pdNS).tab kd900 eq1
  refine p_get (ci := 3) (v := .ref qa2) (C := RX3) (T := TX3) (N := 7) hx hb hT iw_X3 hown hK hw hW kd900 (by decide) rfl rfl 5 (by decide) eq1 (hT _ tb_502) (fun _ h9 => h9) dX3_freeSlot_1 ?_
  obtain ⟨zi5, ez6⟩ : ∃ z : Int32, Int32.ofNat (ln qa2) = z := ⟨_, rfl⟩
  refine p_alen (v := zi5) hx hb hK hw hW kd3 (by decide) rfl rfl ez6 dX3_freeSlot_4 ?_
  have hl7 : zi5.toInt = (2 * gn : Nat) := by have h9 := ofNat_len ez6 (by rw [ln4]; omega); rw [ln4] at h9; exact h9
  have bd8 : (512 : Int) ≤ zi5.toInt ∧ zi5.toInt ≤ 262144 := (by omega)
  refine lv_iconst (v := 1) hx hb dX3_freeSlot_5 (by decide) ?_
  refine lv_isub hx hb dX3_freeSlot_6 (lv_topi (fun zi9 ea10 => ?_))
  have bd11 : (511 : Int) ≤ zi9.toInt ∧ zi9.toInt ≤ 262143 := b_isub ea10 bd8 bc_1 (by decide) (by decide) (by decide) (by decide)
  have qe12 : zi9.toInt = (zi5 : Int32).toInt - (1 : Int32).toInt := e_isub ea10 bd8 bc_1 (by decide) (by decide)
  have qe13 : zi9.toInt = zi5.toInt - 1 := by have ha : (1 : Int32).toInt = 1 := (by decide); rw [ha] at qe12; exact qe12
  refine lv_istore_n (lv' := [(2, .int zi9), (0, .ref qa900), (1, .int zi901)]) hx hb dX3_freeSlot_7 rfl hl (by decide) rfl (fun ls hl => ?_)
  refine lv_iconst (v := 0) hx hb dX3_freeSlot_8 (by decide) ?_
  refine lv_istore_n (lv' := [(3, .int 0), (2, .int zi9), (0, .ref qa900), (1, .int zi901)]) hx hb dX3_freeSlot_9 rfl hl (by decide) rfl (fun ls hl => ?_)
  have lp485 : ∀ (n483 : Nat) (zi413 : Int32) (H : Heap) (locs : List Loc) (ls : Array Slot), 262144 - zi413.toInt < (n483 : Int) → ((0 : Int) ≤ zi413.toInt ∧ zi413.toInt ≤ 262144) → lv_has ls 4 [(0, .ref qa900), (1, .int zi901), (2, .int zi9), (3, .int zi413)] → PW G cy K ln Ls A hp0 H → va_S A s.heap H locs → W p l e ({ frames := 0, cells := 0, slots := 0, locals := 0 } : Room) s m ([.ref qa900, .int zi901] : List Value).toArray below meth c H locs 0 0 Q (F0 m 10 ls []) := by
    intro n483
    induction n483 with
    | zero =>
      intro zi413 H locs ls hm486 bd414 hl hw hS
      exact absurd hm486 (by have := bd414; omega)
    | succ n483 ih484 =>
      intro zi413 H locs ls hm486 bd414 hl hw hS
      refine lv_iload_n hx hb dX3_freeSlot_10 rfl (lv_at hl 3 rfl) ?_
      refine lv_aload_n hx hb dX3_freeSlot_11 rfl (lv_at hl 0 rfl) ?_
      refine p_get (ci := 3) (v := .ref qa2) (C := RX3) (T := TX3) (N := 7) hx hb hT iw_X3 hown hK hw hW kd900 (by decide) rfl rfl 5 (by decide) eq1 (hT _ tb_502) (fun _ h9 => h9) dX3_freeSlot_12 ?_
      obtain ⟨zi487, ez488⟩ : ∃ z : Int32, Int32.ofNat (ln qa2) = z := ⟨_, rfl⟩
      refine p_alen (v := zi487) hx hb hK hw hW kd3 (by decide) rfl rfl ez488 dX3_freeSlot_15 ?_
      have hl489 : zi487.toInt = (2 * gn : Nat) := by have h9 := ofNat_len ez488 (by rw [ln4]; omega); rw [ln4] at h9; exact h9
      have bd490 : (512 : Int) ≤ zi487.toInt ∧ zi487.toInt ≤ 262144 := (by omega)
      refine lv_icmp_ge (tgt := 44) hx hb dX3_freeSlot_16 (by decide) (fun cn491 => ?_) (fun cn491 => ?_)
      · skip
        have tf492 : zi487.toInt ≤ zi413.toInt := (fa_le _ _).mp cn491
        have bd493 : (512 : Int) ≤ zi413.toInt ∧ zi413.toInt ≤ 262144 := r_le_y cn491 bd490 bd414 (by decide) (by decide)
        refine lv_iconst (v := 0) hx hb dX3_freeSlot_44 (by decide) ?_
        rw [hQ]
        exact kz_i hx hb hr hlocks hS rfl hp0 hw ⟨ok0, (Fr.rf), (b_wid2 bc_0 (by decide) (by decide)), (by have := toi bc_0; omega)⟩ (Nat.le_of_ble_eq_true rfl) (Nat.le_of_ble_eq_true rfl) dX3_freeSlot_45
      · skip
        have tf494 : zi413.toInt < zi487.toInt := (fa_lt _ _).mp (Int32.not_le.mp cn491)
        have bd495 : (0 : Int) ≤ zi413.toInt ∧ zi413.toInt ≤ 262143 := r_lt_x (Int32.not_le.mp cn491) bd414 bd490 (by decide) (by decide)
        refine lv_aload_n hx hb dX3_freeSlot_19 rfl (lv_at hl 0 rfl) ?_
        refine p_get (ci := 3) (v := .ref qa2) (C := RX3) (T := TX3) (N := 7) hx hb hT iw_X3 hown hK hw hW kd900 (by decide) rfl rfl 5 (by decide) eq1 (hT _ tb_502) (fun _ h9 => h9) dX3_freeSlot_20 ?_
        refine lv_iload_n hx hb dX3_freeSlot_23 rfl (lv_at hl 1 rfl) ?_
        refine lv_iload_n hx hb dX3_freeSlot_24 rfl (lv_at hl 3 rfl) ?_
        refine lv_iadd hx hb dX3_freeSlot_25 (lv_topi (fun zi496 ea497 => ?_))
        refine lv_iload_n hx hb dX3_freeSlot_26 rfl (lv_at hl 2 rfl) ?_
        refine lv_iand hx hb dX3_freeSlot_27 (lv_topi (fun zi498 ea499 => ?_))
        have an500 := b_and_r (c := zi9.toInt) (d := zi9.toInt) (lo := 0) (hi := zi9.toInt) ea499 ⟨Int.le_refl _, Int.le_refl _⟩ (by omega) (by omega) (by omega)
        have bd501 : (0 : Int) ≤ zi498.toInt ∧ zi498.toInt ≤ 262143 := b_and_r ea499 bd11 (by decide) (by decide) (by decide)
        obtain ⟨zi503, eq502, bd504⟩ := rd_33000 ok0 kd3 ((zi498 : Int32).toNatClampNeg)
        have nz505 := (pdNS).elt kd900 eq1 (vp_bv (by omega) (by omega)) eq502
        refine p_iald (v := zi503) hx hb hK hw hW kd3 (by decide) rfl ln4 (vp_bv (by omega) (by omega)) eq502 dX3_freeSlot_28 ?_
        refine lv_if_ne (tgt := 38) hx hb dX3_freeSlot_29 (by decide) (fun cn506 => ?_) (fun cn506 => ?_)
        · skip
          have tf507 : (zi503 : Int32).toInt ≠ (0 : Int32).toInt := fun e => cn506 (Int32.toInt_inj.mp e)
          have := toi bc_0
          have bd508 : (1 : Int) ≤ zi503.toInt ∧ zi503.toInt ≤ 131072 := r_ne_lo cn506 bd504 (toi bc_0) (by decide) (by decide)
          obtain ⟨zi509, ea510⟩ : ∃ z : Int32, z = zi413 + 1 := ⟨_, rfl⟩
          have bd511 : (1 : Int) ≤ zi509.toInt ∧ zi509.toInt ≤ 262144 := b_iadd ea510 bd495 bc_1 (by decide) (by decide) (by decide) (by decide)
          have qe512 : zi509.toInt = (zi413 : Int32).toInt + (1 : Int32).toInt := e_iadd ea510 bd495 bc_1 (by decide) (by decide)
          have qe513 : zi509.toInt = zi413.toInt + 1 := by have ha : (1 : Int32).toInt = 1 := (by decide); rw [ha] at qe512; exact qe512
          refine lv_iinc (v := zi509) (lv' := [(3, .int zi509), (0, .ref qa900), (1, .int zi901), (2, .int zi9)]) hx hb dX3_freeSlot_38 hl (k := 3) rfl ea510.symm (by decide) rfl (fun ls hl => ?_)
          refine lv_goto (tgt := 10) hx hb dX3_freeSlot_41 (by decide) ?_
          exact ih484 zi509 _ _ ls (by have := hm486; have := qe513; omega) (b_wid2 bd511 (by decide) (by decide)) (lv_sub hl [1, 2, 3, 0] rfl) hw hS
        · skip
          have bd514 : (0 : Int) ≤ zi503.toInt ∧ zi503.toInt ≤ 0 := r_eq_x cn506 bd504 bc_0 (by decide) (by decide)
          refine lv_iload_n hx hb dX3_freeSlot_32 rfl (lv_at hl 1 rfl) ?_
          refine lv_iload_n hx hb dX3_freeSlot_33 rfl (lv_at hl 3 rfl) ?_
          refine lv_iadd hx hb dX3_freeSlot_34 (lv_topi (fun zi515 ea516 => ?_))
          refine lv_iload_n hx hb dX3_freeSlot_35 rfl (lv_at hl 2 rfl) ?_
          refine lv_iand hx hb dX3_freeSlot_36 (lv_topi (fun zi517 ea518 => ?_))
          have an519 := b_and_r (c := zi9.toInt) (d := zi9.toInt) (lo := 0) (hi := zi9.toInt) ea518 ⟨Int.le_refl _, Int.le_refl _⟩ (by omega) (by omega) (by omega)
          have bd520 : (0 : Int) ≤ zi517.toInt ∧ zi517.toInt ≤ 262143 := b_and_r ea518 bd11 (by decide) (by decide) (by decide)
          rw [hQ]
          exact kz_i hx hb hr hlocks hS rfl hp0 hw ⟨ok0, (Fr.rf), (b_wid2 bd520 (by decide) (by decide)), (by omega)⟩ (Nat.le_of_ble_eq_true rfl) (Nat.le_of_ble_eq_true rfl) dX3_freeSlot_37
  exact lp485 _ 0 _ _ ls (lp_in _) (b_wid2 bc_0 (by decide) (by decide)) (lv_sub hl [2, 3, 1, 0] rfl) hw hS

set_option maxRecDepth 100000 in
set_option maxHeartbeats 4000000 in
theorem cX3_grow_vGM_0 (l : Launch) (G : va_G) (cy : Nat → ClassId) (ev : Ew) (K ln : Nat → Nat) (Ls : List Nat) (hW : SW K ln Ls) (sz : Nat) (hp0 : Nat → Nat → Value) (ok0 : Ok K hp0) (qa900 : Nat) (gn : Nat) (kd900 : K qa900 = 4) (pdNS : NSx K ln hp0 gn) (xp0 : 131072 < 2 * gn) : Met l yX3_grow (WS yX3_grow cX3_grow 3 none) { frames := 0, cells := 0, slots := 0, locals := 0 } (PB2 [.ref qa900] sz G cy ev (va_pl Ls (cellOf cy K ln hp0))) (QBv (S := (Nat → Nat → Value)) (fun u : (Nat → Nat → Value) => Ok K u ∧ Fr [] K hp0 u) G (fun u => va_pl Ls (cellOf cy K ln u)) (va_A (va_pl Ls (cellOf cy K ln hp0)) sz)) 0 0 (va_A (va_pl Ls (cellOf cy K ln hp0)) sz) := by
  refine met_of2 (y := yX3_grow) (L := 3) (av := [.ref qa900]) (Qc := fun A => QBv (S := (Nat → Nat → Value)) (fun u : (Nat → Nat → Value) => Ok K u ∧ Fr [] K hp0 u) G (fun u => va_pl Ls (cellOf cy K ln u)) A) (plainFor_of_name (by decide)) (Nat.le_of_ble_eq_true rfl) ?_
  intro p e s m below meth c hsz hx hb hr hml hown hT hlocks hin hK A hA hE hw hS ls hl
  have hw : PW G cy K ln Ls A hp0 s.heap := hw
  have hown : s.vm.findClass "LieClock$Nodes" = some m.cls := hown
  have hl : lv_has ls 3 [(0, .ref qa900)] := hl
  obtain ⟨Q, hQ⟩ : ∃ Q : State → Prop, Q = MQ below (QBv (S := (Nat → Nat → Value)) (fun u : (Nat → Nat → Value) => Ok K u ∧ Fr [] K hp0 u) G (fun u => va_pl Ls (cellOf cy K ln u)) A) ([.ref qa900] : List Value).toArray s 0 0 A := ⟨_, rfl⟩
  rw [← hQ]
  have hgn := NSx.bd pdNS
  refine lv_iconst (v := 2) hx hb dX3_grow_0 (by decide) ?_
  refine lv_aload_n hx hb dX3_grow_1 rfl (lv_at hl 0 rfl) ?_
  obtain ⟨qa2, eq1, kd3⟩ := rd_4000 ok0 kd900
  have ln4 := (pdNS).ref kd900 (by decide) eq1
  refine p_get (ci := 3) (v := .ref qa2) (C := RX3) (T := TX3) (N := 7) hx hb hT iw_X3 hown hK hw hW kd900 (by decide) rfl rfl 0 (by decide) eq1 (hT _ tb_492) (fun _ h9 => h9) dX3_grow_2 ?_
  obtain ⟨zi5, ez6⟩ : ∃ z : Int32, Int32.ofNat (ln qa2) = z := ⟨_, rfl⟩
  refine p_alen (v := zi5) hx hb hK hw hW kd3 (by decide) rfl rfl ez6 dX3_grow_5 ?_
  have hl7 : zi5.toInt = (gn : Nat) := by have h9 := ofNat_len ez6 (by rw [ln4]; omega); rw [ln4] at h9; exact h9
  have bd8 : (256 : Int) ≤ zi5.toInt ∧ zi5.toInt ≤ 131072 := (by omega)
  refine lv_imul hx hb dX3_grow_6 (lv_topi (fun zi9 ea10 => ?_))
  have bd11 : (512 : Int) ≤ zi9.toInt ∧ zi9.toInt ≤ 262144 := b_imul ea10 bc_2 bd8 (by decide) (by decide) (by decide) (by decide) (by decide)
  have qe12 : zi9.toInt = (2 : Int32).toInt * (zi5 : Int32).toInt := e_imul (b := 2) (d := 131072) ea10 (b_wid2 bc_2 (by decide) (by decide)) (b_wid2 bd8 (by decide) (by decide)) (by decide)
  have qe13 : zi9.toInt = 2 * zi5.toInt := by have ha : (2 : Int32).toInt = 2 := (by decide); rw [ha] at qe12; exact qe12
  refine lv_istore_n (lv' := [(1, .int zi9), (0, .ref qa900)]) hx hb dX3_grow_7 rfl hl (by decide) rfl (fun ls hl => ?_)
  refine lv_iload_n hx hb dX3_grow_8 rfl (lv_at hl 0 rfl) ?_
  refine lv_ldc (v := 131072) hx hb hown (hT _ tb_1160) dX3_grow_9 ?_
  refine lv_icmp_le (tgt := 15) hx hb dX3_grow_11 (by decide) (fun cn14 => ?_) (fun cn14 => ?_)
  · skip
    have bd15 : (512 : Int) ≤ zi9.toInt ∧ zi9.toInt ≤ 131072 := r_le_x cn14 bd11 bc_131072 (by decide) (by decide)
    exact False.elim (by omega)
  · skip
    have bd16 : (131073 : Int) ≤ zi9.toInt ∧ zi9.toInt ≤ 262144 := r_lt_y (Int32.not_le.mp cn14) bc_131072 bd11 (by decide) (by decide)
    rw [hQ]
    exact kz_v hx hb hr hlocks hS hp0 hw ⟨ok0, (Fr.rf)⟩ (Nat.le_of_ble_eq_true rfl) (Nat.le_of_ble_eq_true rfl) dX3_grow_14

set_option maxRecDepth 100000 in
set_option maxHeartbeats 4000000 in
theorem cX0_canCome_0 (l : Launch) (G : va_G) (cy : Nat → ClassId) (ev : Ew) (K ln : Nat → Nat) (Ls : List Nat) (hW : SW K ln Ls) (sz : Nat) (hp0 : Nat → Nat → Value) (ok0 : Ok K hp0) (zi900 : Int32) (zi901 : Int32)  : Met l yX0_canCome (WS yX0_canCome cX0_canCome 2 (some .boolean)) { frames := 0, cells := 0, slots := 0, locals := 0 } (PB2 [.int zi900, .int zi901] sz G cy ev (va_pl Ls (cellOf cy K ln hp0))) (QBi (S := (Nat → Nat → Value)) (fun (r : Int32) (u : (Nat → Nat → Value)) => Ok K u ∧ Fr [] K hp0 u ∧ ((0 : Int) ≤ r.toInt ∧ r.toInt ≤ 1)) G (fun u => va_pl Ls (cellOf cy K ln u)) (va_A (va_pl Ls (cellOf cy K ln hp0)) sz)) 0 0 (va_A (va_pl Ls (cellOf cy K ln hp0)) sz) := by
  refine met_of2 (y := yX0_canCome) (L := 2) (av := [.int zi900, .int zi901]) (Qc := fun A => QBi (S := (Nat → Nat → Value)) (fun (r : Int32) (u : (Nat → Nat → Value)) => Ok K u ∧ Fr [] K hp0 u ∧ ((0 : Int) ≤ r.toInt ∧ r.toInt ≤ 1)) G (fun u => va_pl Ls (cellOf cy K ln u)) A) (plainFor_of_name (by decide)) (Nat.le_of_ble_eq_true rfl) ?_
  intro p e s m below meth c hsz hx hb hr hml hown hT hlocks hin hK A hA hE hw hS ls hl
  have hw : PW G cy K ln Ls A hp0 s.heap := hw
  have hown : s.vm.findClass "LieClock$Ahead" = some m.cls := hown
  have hl : lv_has ls 2 [(0, .int zi900), (1, .int zi901)] := hl
  obtain ⟨Q, hQ⟩ : ∃ Q : State → Prop, Q = MQ below (QBi (S := (Nat → Nat → Value)) (fun (r : Int32) (u : (Nat → Nat → Value)) => Ok K u ∧ Fr [] K hp0 u ∧ ((0 : Int) ≤ r.toInt ∧ r.toInt ≤ 1)) G (fun u => va_pl Ls (cellOf cy K ln u)) A) ([.int zi900, .int zi901] : List Value).toArray s 0 0 A := ⟨_, rfl⟩
  rw [← hQ]
  refine lv_iload_n hx hb dX0_canCome_0 rfl (lv_at hl 0 rfl) ?_
  refine lv_iload_n hx hb dX0_canCome_1 rfl (lv_at hl 1 rfl) ?_
  refine lv_bipush (v := 121) hx hb dX0_canCome_2 (by decide) ?_
  refine lv_imul hx hb dX0_canCome_4 (lv_topi (fun zi1 ea2 => ?_))
  refine lv_icmp_gt (tgt := 21) hx hb dX0_canCome_5 (by decide) (fun cn3 => ?_) (fun cn3 => ?_)
  · skip
    have bd4 : (-2147483648 : Int) ≤ zi1.toInt ∧ zi1.toInt ≤ 2147483646 := r_lt_x cn3 (b_all zi1) (b_all zi900) (by decide) (by decide)
    have bd5 : (-2147483647 : Int) ≤ zi900.toInt ∧ zi900.toInt ≤ 2147483647 := r_lt_y cn3 (b_all zi1) (b_all zi900) (by decide) (by decide)
    refine lv_iconst (v := 0) hx hb dX0_canCome_21 (by decide) ?_
    rw [hQ]
    exact kz_i hx hb hr hlocks hS (nz_n bc_0 (by decide) (by decide)) hp0 hw ⟨ok0, (Fr.rf), (b_wid2 bc_0 (by decide) (by decide))⟩ (Nat.le_of_ble_eq_true rfl) (Nat.le_of_ble_eq_true rfl) dX0_canCome_22
  · skip
    refine lv_iload_n hx hb dX0_canCome_8 rfl (lv_at hl 1 rfl) ?_
    refine lv_iconst (v := 1) hx hb dX0_canCome_9 (by decide) ?_
    refine lv_icmp_gt (tgt := 17) hx hb dX0_canCome_10 (by decide) (fun cn6 => ?_) (fun cn6 => ?_)
    · skip
      have bd7 : (2 : Int) ≤ zi901.toInt ∧ zi901.toInt ≤ 2147483647 := r_lt_y cn6 bc_1 (b_all zi901) (by decide) (by decide)
      refine lv_iconst (v := 1) hx hb dX0_canCome_17 (by decide) ?_
      refine lv_goto (tgt := 22) hx hb dX0_canCome_18 (by decide) ?_
      rw [hQ]
      exact kz_i hx hb hr hlocks hS (nz_n bc_1 (by decide) (by decide)) hp0 hw ⟨ok0, (Fr.rf), (b_wid2 bc_1 (by decide) (by decide))⟩ (Nat.le_of_ble_eq_true rfl) (Nat.le_of_ble_eq_true rfl) dX0_canCome_22
    · skip
      have bd8 : (-2147483648 : Int) ≤ zi901.toInt ∧ zi901.toInt ≤ 1 := r_le_x (Int32.not_lt.mp cn6) (b_all zi901) bc_1 (by decide) (by decide)
      refine lv_iload_n hx hb dX0_canCome_13 rfl (lv_at hl 0 rfl) ?_
      refine lv_if_le (tgt := 21) hx hb dX0_canCome_14 (by decide) (fun cn9 => ?_) (fun cn9 => ?_)
      · skip
        have bd10 : (-2147483648 : Int) ≤ zi900.toInt ∧ zi900.toInt ≤ 0 := r_le_x cn9 (b_all zi900) bc_0 (by decide) (by decide)
        refine lv_iconst (v := 0) hx hb dX0_canCome_21 (by decide) ?_
        rw [hQ]
        exact kz_i hx hb hr hlocks hS (nz_n bc_0 (by decide) (by decide)) hp0 hw ⟨ok0, (Fr.rf), (b_wid2 bc_0 (by decide) (by decide))⟩ (Nat.le_of_ble_eq_true rfl) (Nat.le_of_ble_eq_true rfl) dX0_canCome_22
      · skip
        have bd11 : (1 : Int) ≤ zi900.toInt ∧ zi900.toInt ≤ 2147483647 := r_lt_y (Int32.not_le.mp cn9) bc_0 (b_all zi900) (by decide) (by decide)
        refine lv_iconst (v := 1) hx hb dX0_canCome_17 (by decide) ?_
        refine lv_goto (tgt := 22) hx hb dX0_canCome_18 (by decide) ?_
        rw [hQ]
        exact kz_i hx hb hr hlocks hS (nz_n bc_1 (by decide) (by decide)) hp0 hw ⟨ok0, (Fr.rf), (b_wid2 bc_1 (by decide) (by decide))⟩ (Nat.le_of_ble_eq_true rfl) (Nat.le_of_ble_eq_true rfl) dX0_canCome_22

set_option maxRecDepth 100000 in
set_option maxHeartbeats 4000000 in
theorem cX0_keepPath_0 (l : Launch) (G : va_G) (cy : Nat → ClassId) (ev : Ew) (K ln : Nat → Nat) (Ls : List Nat) (hW : SW K ln Ls) (sz : Nat) (hp0 : Nat → Nat → Value) (ok0 : Ok K hp0) (qa900 : Nat) (qa901 : Nat) (zi902 : Int32) (zi903 : Int32) (zi904 : Int32) (gn : Nat) (kd900 : K qa900 = 1) (kd901 : K qa901 = 11) (bd904 : ((1 : Int) ≤ zi904.toInt ∧ zi904.toInt ≤ 4)) (pdNS : NSx K ln hp0 gn) : Met l yX0_keepPath (WS yX0_keepPath cX0_keepPath 8 none) { frames := 0, cells := 0, slots := 0, locals := 0 } (PB2 [.ref qa900, .ref qa901, .int zi902, .int zi903, .int zi904] sz G cy ev (va_pl Ls (cellOf cy K ln hp0))) (QBv (S := (Nat → Nat → Value)) (fun u : (Nat → Nat → Value) => Ok K u ∧ Fr [1003, 1004, 20000] K hp0 u) G (fun u => va_pl Ls (cellOf cy K ln u)) (va_A (va_pl Ls (cellOf cy K ln hp0)) sz)) 0 0 (va_A (va_pl Ls (cellOf cy K ln hp0)) sz) := by
  refine met_of2 (y := yX0_keepPath) (L := 8) (av := [.ref qa900, .ref qa901, .int zi902, .int zi903, .int zi904]) (Qc := fun A => QBv (S := (Nat → Nat → Value)) (fun u : (Nat → Nat → Value) => Ok K u ∧ Fr [1003, 1004, 20000] K hp0 u) G (fun u => va_pl Ls (cellOf cy K ln u)) A) (plainFor_of_name (by decide)) (Nat.le_of_ble_eq_true rfl) ?_
  intro p e s m below meth c hsz hx hb hr hml hown hT hlocks hin hK A hA hE hw hS ls hl
  have hw : PW G cy K ln Ls A hp0 s.heap := hw
  have hown : s.vm.findClass "LieClock$Ahead" = some m.cls := hown
  have hl : lv_has ls 8 [(0, .ref qa900), (1, .ref qa901), (2, .int zi902), (3, .int zi903), (4, .int zi904)] := hl
  obtain ⟨Q, hQ⟩ : ∃ Q : State → Prop, Q = MQ below (QBv (S := (Nat → Nat → Value)) (fun u : (Nat → Nat → Value) => Ok K u ∧ Fr [1003, 1004, 20000] K hp0 u) G (fun u => va_pl Ls (cellOf cy K ln u)) A) ([.ref qa900, .ref qa901, .int zi902, .int zi903, .int zi904] : List Value).toArray s 0 0 A := ⟨_, rfl⟩
  rw [← hQ]
  have hgn := NSx.bd pdNS
  refine lv_iload_n hx hb dX0_keepPath_0 rfl (lv_at hl 2 rfl) ?_
  refine lv_istore (lv' := [(5, .int zi902), (0, .ref qa900), (1, .ref qa901), (2, .int zi902), (3, .int zi903), (4, .int zi904)]) hx hb dX0_keepPath_1 hl (by decide) rfl (fun ls hl => ?_)
  refine lv_iload_n hx hb dX0_keepPath_3 rfl (lv_at hl 4 rfl) ?_
  refine lv_istore (lv' := [(6, .int zi903), (5, .int zi902), (0, .ref qa900), (1, .ref qa901), (2, .int zi902), (3, .int zi903), (4, .int zi904)]) hx hb dX0_keepPath_4 hl (by decide) rfl (fun ls hl => ?_)
  refine lv_aload_n hx hb dX0_keepPath_6 rfl (lv_at hl 2 rfl) ?_
  refine lv_iload hx hb dX0_keepPath_7 (lv_at hl 6 rfl) ?_
  refine p_put (ci := 0) (v := .int zi904) (ty := .int) (C := RX0) (T := TX0) (N := 8) hx hb hT iw_X0 tyX0 tyX0_ok nmX0 hown hK hw hS hW kd900 (by decide) rfl rfl 3 (by decide) (hT _ tb_595) (fun _ h9 => h9) rfl (by decide +kernel) rfl rfl dX0_keepPath_9 (fun hp1 eh2 H locs hw hS => ?_)
  have ok3 := wr_1003 bd904 (by decide) (by decide) ok0 kd900 eh2
  refine lv_iload hx hb dX0_keepPath_12 (lv_at hl 6 rfl) ?_
  refine lv_iconst (v := 1) hx hb dX0_keepPath_14 (by decide) ?_
  refine lv_isub hx hb dX0_keepPath_15 (lv_topi (fun zi4 ea5 => ?_))
  have bd6 : (0 : Int) ≤ zi4.toInt ∧ zi4.toInt ≤ 3 := b_isub ea5 bd904 bc_1 (by decide) (by decide) (by decide) (by decide)
  have qe7 : zi4.toInt = (zi904 : Int32).toInt - (1 : Int32).toInt := e_isub ea5 bd904 bc_1 (by decide) (by decide)
  have qe8 : zi4.toInt = zi904.toInt - 1 := by have ha : (1 : Int32).toInt = 1 := (by decide); rw [ha] at qe7; exact qe7
  refine lv_istore (lv' := [(7, .int zi4), (6, .int zi903), (5, .int zi902), (0, .ref qa900), (1, .ref qa901), (2, .int zi902), (3, .int zi903), (4, .int zi904)]) hx hb dX0_keepPath_16 hl (by decide) rfl (fun ls hl => ?_)
  have lp489 : ∀ (n487 : Nat) (hp299 : Nat → Nat → Value) (zi296 : Int32) (zi297 : Int32) (zi298 : Int32) (H : Heap) (locs : List Loc) (ls : Array Slot), zi298.toInt - (-1) < (n487 : Int) → Ok K hp299 → Fr [1004, 20000] K hp1 hp299 → ((-1 : Int) ≤ zi298.toInt ∧ zi298.toInt ≤ 3) → lv_has ls 8 [(0, .ref qa900), (1, .ref qa901), (5, .int zi296), (6, .int zi297), (7, .int zi298)] → PW G cy K ln Ls A hp299 H → va_S A s.heap H locs → W p l e ({ frames := 0, cells := 0, slots := 0, locals := 0 } : Room) s m ([.ref qa900, .ref qa901, .int zi902, .int zi903, .int zi904] : List Value).toArray below meth c H locs 0 0 Q (F0 m 18 ls []) := by
    intro n487
    induction n487 with
    | zero =>
      intro hp299 zi296 zi297 zi298 H locs ls hm490 ok301 F300 bd302 hl hw hS
      exact absurd hm490 (by have := bd302; omega)
    | succ n487 ih488 =>
      intro hp299 zi296 zi297 zi298 H locs ls hm490 ok301 F300 bd302 hl hw hS
      refine lv_iload hx hb dX0_keepPath_18 (lv_at hl 4 rfl) ?_
      refine lv_if_lt (tgt := 117) hx hb dX0_keepPath_20 (by decide) (fun cn491 => ?_) (fun cn491 => ?_)
      · skip
        have bd492 : (-1 : Int) ≤ zi298.toInt ∧ zi298.toInt ≤ -1 := r_lt_x cn491 bd302 bc_0 (by decide) (by decide)
        rw [hQ]
        exact kz_v hx hb hr hlocks hS hp299 hw ⟨ok301, (Fr.tr (Fr.put (cq := 1003) (Fr.rf) eh2 kd900 (cd_o (by decide)) (by decide)) F300 (by decide))⟩ (Nat.le_of_ble_eq_true rfl) (Nat.le_of_ble_eq_true rfl) dX0_keepPath_117
      · skip
        have bd493 : (0 : Int) ≤ zi298.toInt ∧ zi298.toInt ≤ 3 := r_le_y (Int32.not_lt.mp cn491) bc_0 bd302 (by decide) (by decide)
        refine lv_iload hx hb dX0_keepPath_23 (lv_at hl 4 rfl) ?_
        refine lv_iconst (v := 4) hx hb dX0_keepPath_25 (by decide) ?_
        refine lv_icmp_ge (tgt := 117) hx hb dX0_keepPath_26 (by decide) (fun c => absurd c (d_nle bc_4 bd493 (by decide))) (fun _ => ?_)
        refine lv_aload_n hx hb dX0_keepPath_29 rfl (lv_at hl 0 rfl) ?_
        obtain ⟨qa495, eq494, kd496⟩ := rd_1002 ok301 kd900
        refine p_get (ci := 0) (v := .ref qa495) (C := RX0) (T := TX0) (N := 8) hx hb hT iw_X0 hown hK hw hW kd900 (by decide) rfl rfl 2 (by decide) eq494 (hT _ tb_593) (fun _ h9 => h9) dX0_keepPath_30 ?_
        refine lv_iload hx hb dX0_keepPath_33 (lv_at hl 4 rfl) ?_
        refine lv_iload hx hb dX0_keepPath_35 (lv_at hl 3 rfl) ?_
        refine p_iast (x := zi297) hx hb hK hw hS hW kd496 (by decide) rfl (hW.len kd496 (n := 4) rfl (by decide)) (vp_b bd493 (by decide) (by decide)) dX0_keepPath_37 (fun hp497 eh498 H locs hw hS => ?_)
        have ok499 := wr_20000 ok301 kd496 eh498
        refine lv_aload_n hx hb dX0_keepPath_38 rfl (lv_at hl 0 rfl) ?_
        refine lv_dup hx hb dX0_keepPath_39 rfl ?_
        obtain ⟨zi501, eq500⟩ := rd_1004 ok499 kd900
        refine p_get (ci := 0) (v := .int zi501) (C := RX0) (T := TX0) (N := 8) hx hb hT iw_X0 hown hK hw hW kd900 (by decide) rfl rfl 4 (by decide) eq500 (hT _ tb_597) (fun _ h9 => h9) dX0_keepPath_40 ?_
        refine lv_aload_n hx hb dX0_keepPath_43 rfl (lv_at hl 1 rfl) ?_
        obtain ⟨zi503, eq502⟩ := rd_11006 ok499 kd901
        refine p_getN (ci := 10) (v := .int zi503) (C := RX10) (T := TX10) (N := 20) hx hb hT iw_X10 hown hK hw hW kd901 (by decide) rfl rfl 6 (by decide) eq502 (hK.fl nw_105) (fun _ h9 => h9) dX0_keepPath_44 ?_
        refine lv_iload hx hb dX0_keepPath_47 (lv_at hl 3 rfl) ?_
        refine lv_ishr hx hb dX0_keepPath_49 (lv_topi (fun zi504 ea505 => ?_))
        refine lv_iconst (v := 1) hx hb dX0_keepPath_50 (by decide) ?_
        refine lv_iand hx hb dX0_keepPath_51 (lv_topi (fun zi506 ea507 => ?_))
        have bd508 : (0 : Int) ≤ zi506.toInt ∧ zi506.toInt ≤ 1 := b_and_r ea507 bc_1 (by decide) (by decide) (by decide)
        have jn515 : ∀ (zi513 : Int32) (H : Heap) (locs : List Loc) (ls : Array Slot), ((0 : Int) ≤ zi513.toInt ∧ zi513.toInt ≤ 1) → lv_has ls 8 [(0, .ref qa900), (1, .ref qa901), (5, .int zi296), (6, .int zi297), (7, .int zi298)] → PW G cy K ln Ls A hp497 H → va_S A s.heap H locs → W p l e ({ frames := 0, cells := 0, slots := 0, locals := 0 } : Room) s m ([.ref qa900, .ref qa901, .int zi902, .int zi903, .int zi904] : List Value).toArray below meth c H locs 0 0 Q (F0 m 60 ls [.int zi513, .int zi501, .ref qa900]) := by
          intro zi513 H locs ls bd514 hl hw hS
          refine lv_iadd hx hb dX0_keepPath_60 (lv_topi (fun zi516 ea517 => ?_))
          refine p_put (ci := 0) (v := .int zi516) (ty := .int) (C := RX0) (T := TX0) (N := 8) hx hb hT iw_X0 tyX0 tyX0_ok nmX0 hown hK hw hS hW kd900 (by decide) rfl rfl 4 (by decide) (hT _ tb_597) (fun _ h9 => h9) rfl (by decide +kernel) rfl rfl dX0_keepPath_61 (fun hp518 eh519 H locs hw hS => ?_)
          have ok520 := wr_1004 ok499 kd900 eh519
          refine lv_iload hx hb dX0_keepPath_64 (lv_at hl 2 rfl) ?_
          have jn549 : ∀ (zi547 : Int32) (zi548 : Int32) (H : Heap) (locs : List Loc) (ls : Array Slot), lv_has ls 8 [(0, .ref qa900), (1, .ref qa901), (5, .int zi547), (6, .int zi548), (7, .int zi298)] → PW G cy K ln Ls A hp518 H → va_S A s.heap H locs → W p l e ({ frames := 0, cells := 0, slots := 0, locals := 0 } : Room) s m ([.ref qa900, .ref qa901, .int zi902, .int zi903, .int zi904] : List Value).toArray below meth c H locs 0 0 Q (F0 m 111 ls []) := by
            intro zi547 zi548 H locs ls hl hw hS
            obtain ⟨zi550, ea551⟩ : ∃ z : Int32, z = zi298 + (-1) := ⟨_, rfl⟩
            have bd552 : (-1 : Int) ≤ zi550.toInt ∧ zi550.toInt ≤ 2 := b_iadd ea551 bd493 bc_m1 (by decide) (by decide) (by decide) (by decide)
            have qe553 : zi550.toInt = (zi298 : Int32).toInt + ((-1) : Int32).toInt := e_iadd ea551 bd493 bc_m1 (by decide) (by decide)
            have qe554 : zi550.toInt = zi298.toInt + (-1) := by have ha : ((-1) : Int32).toInt = (-1) := (by decide); rw [ha] at qe553; exact qe553
            refine lv_iinc (v := zi550) (lv' := [(7, .int zi550), (0, .ref qa900), (1, .ref qa901), (5, .int zi547), (6, .int zi548)]) hx hb dX0_keepPath_111 hl (k := 4) rfl ea551.symm (by decide) rfl (fun ls hl => ?_)
            refine lv_goto (tgt := 18) hx hb dX0_keepPath_114 (by decide) ?_
            exact ih488 hp518 zi547 zi548 zi550 _ _ ls (by have := hm490; have := qe554; omega) ok520 (Fr.put (cq := 1004) (Fr.put (cq := 20000) (Fr.tr (Fr.rf) F300 (by decide)) eh498 kd496 (cd_a (by decide)) (by decide)) eh519 kd900 (cd_o (by decide)) (by decide)) (b_wid2 bd552 (by decide) (by decide)) (lv_sub hl [1, 2, 3, 4, 0] rfl) hw hS
          refine lv_if_lt (tgt := 111) hx hb dX0_keepPath_66 (by decide) (fun cn521 => ?_) (fun cn521 => ?_)
          · skip
            have bd555 : (-2147483648 : Int) ≤ zi296.toInt ∧ zi296.toInt ≤ -1 := r_lt_x cn521 (b_all zi296) bc_0 (by decide) (by decide)
            exact jn549 zi296 zi297 _ _ ls (lv_sub hl [0, 1, 2, 3, 4] rfl) hw hS
          · skip
            have bd556 : (0 : Int) ≤ zi296.toInt ∧ zi296.toInt ≤ 2147483647 := r_le_y (Int32.not_lt.mp cn521) bc_0 (b_all zi296) (by decide) (by decide)
            refine lv_iload hx hb dX0_keepPath_69 (lv_at hl 2 rfl) ?_
            refine lv_aload_n hx hb dX0_keepPath_71 rfl (lv_at hl 0 rfl) ?_
            obtain ⟨qa558, eq557, kd559⟩ := rd_1000 ok520 kd900
            refine p_get (ci := 0) (v := .ref qa558) (C := RX0) (T := TX0) (N := 8) hx hb hT iw_X0 hown hK hw hW kd900 (by decide) rfl rfl 0 (by decide) eq557 (hT _ tb_591) (fun _ h9 => h9) dX0_keepPath_72 ?_
            obtain ⟨zi561, eq560, bd562⟩ := rd_4006 ok520 kd559
            have pd563 : NSx K ln hp518 gn := NSx_fr ok0  (show Fr [1003, 1004, 20000] K hp0 hp518 from (Fr.put (cq := 1004) (Fr.put (cq := 20000) (Fr.tr (Fr.put (cq := 1003) (Fr.rf) eh2 kd900 (cd_o (by decide)) (by decide)) F300 (by decide)) eh498 kd496 (cd_a (by decide)) (by decide)) eh519 kd900 (cd_o (by decide)) (by decide))) (by decide) pdNS
            have nz564 := (pd563).sz kd559 eq560
            refine p_getN (ci := 3) (v := .int zi561) (C := RX3) (T := TX3) (N := 7) hx hb hT iw_X3 hown hK hw hW kd559 (by decide) rfl rfl 6 (by decide) eq560 (hK.fl nw_400) (fun _ h9 => h9) dX0_keepPath_75 ?_
            refine lv_icmp_ge (tgt := 111) hx hb dX0_keepPath_78 (by decide) (fun cn565 => ?_) (fun cn565 => ?_)
            · skip
              have tf566 : zi561.toInt ≤ zi296.toInt := (fa_le _ _).mp cn565
              exact jn549 zi296 zi297 _ _ ls (lv_sub hl [0, 1, 2, 3, 4] rfl) hw hS
            · skip
              have tf567 : zi296.toInt < zi561.toInt := (fa_lt _ _).mp (Int32.not_le.mp cn565)
              have bd568 : (0 : Int) ≤ zi296.toInt ∧ zi296.toInt ≤ 131071 := r_lt_x (Int32.not_le.mp cn565) bd556 bd562 (by decide) (by decide)
              have bd569 : (1 : Int) ≤ zi561.toInt ∧ zi561.toInt ≤ 131072 := r_lt_y (Int32.not_le.mp cn565) bd556 bd562 (by decide) (by decide)
              refine lv_aload_n hx hb dX0_keepPath_81 rfl (lv_at hl 0 rfl) ?_
              refine p_get (ci := 0) (v := .ref qa558) (C := RX0) (T := TX0) (N := 8) hx hb hT iw_X0 hown hK hw hW kd900 (by decide) rfl rfl 0 (by decide) eq557 (hT _ tb_591) (fun _ h9 => h9) dX0_keepPath_82 ?_
              obtain ⟨qa571, eq570, kd572⟩ := rd_4003 ok520 kd559
              have ln573 := (pd563).ref kd559 (by decide) eq570
              refine p_getN (ci := 3) (v := .ref qa571) (C := RX3) (T := TX3) (N := 7) hx hb hT iw_X3 hown hK hw hW kd559 (by decide) rfl rfl 3 (by decide) eq570 (hK.fl nw_395) (fun _ h9 => h9) dX0_keepPath_85 ?_
              refine lv_iload hx hb dX0_keepPath_88 (lv_at hl 2 rfl) ?_
              obtain ⟨zi575, eq574⟩ := rd_31000 ok520 kd572 ((zi296 : Int32).toNatClampNeg)
              refine p_iald (v := zi575) hx hb hK hw hW kd572 (by decide) rfl ln573 (vp_bv (by omega) (by omega)) eq574 dX0_keepPath_90 ?_
              refine lv_bipush (v := 16) hx hb dX0_keepPath_91 (by decide) ?_
              refine lv_irem hx hb dX0_keepPath_93 (ne_z bc_16 (by decide)) (lv_topi (fun zi576 ea577 => ?_))
              refine lv_istore (lv' := [(6, .int zi576), (0, .ref qa900), (1, .ref qa901), (5, .int zi296), (7, .int zi298)]) hx hb dX0_keepPath_94 hl (by decide) rfl (fun ls hl => ?_)
              refine lv_aload_n hx hb dX0_keepPath_96 rfl (lv_at hl 1 rfl) ?_
              refine p_get (ci := 0) (v := .ref qa558) (C := RX0) (T := TX0) (N := 8) hx hb hT iw_X0 hown hK hw hW kd900 (by decide) rfl rfl 0 (by decide) eq557 (hT _ tb_591) (fun _ h9 => h9) dX0_keepPath_97 ?_
              refine p_getN (ci := 3) (v := .ref qa571) (C := RX3) (T := TX3) (N := 7) hx hb hT iw_X3 hown hK hw hW kd559 (by decide) rfl rfl 3 (by decide) eq570 (hK.fl nw_395) (fun _ h9 => h9) dX0_keepPath_100 ?_
              refine lv_iload hx hb dX0_keepPath_103 (lv_at hl 3 rfl) ?_
              refine p_iald (v := zi575) hx hb hK hw hW kd572 (by decide) rfl ln573 (vp_bv (by omega) (by omega)) eq574 dX0_keepPath_105 ?_
              refine lv_bipush (v := 16) hx hb dX0_keepPath_106 (by decide) ?_
              refine lv_idiv hx hb dX0_keepPath_108 (ne_z bc_16 (by decide)) (lv_topi (fun zi578 ea579 => ?_))
              refine lv_istore (lv' := [(5, .int zi578), (6, .int zi576), (0, .ref qa900), (1, .ref qa901), (7, .int zi298)]) hx hb dX0_keepPath_109 hl (by decide) rfl (fun ls hl => ?_)
              exact jn549 zi578 zi576 _ _ ls (lv_sub hl [2, 3, 0, 1, 4] rfl) hw hS
        refine lv_if_ne (tgt := 59) hx hb dX0_keepPath_52 (by decide) (fun cn509 => ?_) (fun cn509 => ?_)
        · skip
          have tf580 : (zi506 : Int32).toInt ≠ (0 : Int32).toInt := fun e => cn509 (Int32.toInt_inj.mp e)
          have := toi bc_0
          have bd581 : (1 : Int) ≤ zi506.toInt ∧ zi506.toInt ≤ 1 := r_ne_lo cn509 bd508 (toi bc_0) (by decide) (by decide)
          refine lv_iconst (v := 0) hx hb dX0_keepPath_59 (by decide) ?_
          exact jn515 0 _ _ ls (b_wid2 bc_0 (by decide) (by decide)) (lv_sub hl [0, 1, 2, 3, 4] rfl) hw hS
        · skip
          have bd582 : (0 : Int) ≤ zi506.toInt ∧ zi506.toInt ≤ 0 := r_eq_x cn509 bd508 bc_0 (by decide) (by decide)
          refine lv_iconst (v := 1) hx hb dX0_keepPath_55 (by decide) ?_
          refine lv_goto (tgt := 60) hx hb dX0_keepPath_56 (by decide) ?_
          exact jn515 1 _ _ ls (b_wid2 bc_1 (by decide) (by decide)) (lv_sub hl [0, 1, 2, 3, 4] rfl) hw hS
  exact lp489 _ hp1 zi902 zi903 zi4 _ _ ls (lp_in _) ok3 (Fr.rf) (b_wid2 bd6 (by decide) (by decide)) (lv_sub hl [3, 4, 2, 1, 0] rfl) hw hS

set_option maxRecDepth 100000 in
set_option maxHeartbeats 4000000 in
theorem cJ7_copyOf_59c91_0 (l : Launch) (G : va_G) (cy : Nat → ClassId) (ev : Ew) (K0 ln0 : Nat → Nat) (Ls0 : List Nat) (hW0 : SW K0 ln0 Ls0) (sz : Nat) (hp0 : Nat → Nat → Value) (ok0 : Ok K0 hp0) (qa900 : Nat) (zi901 : Int32) (gN : Nat) (kd900 : K0 qa900 = 28) (bd901 : ((0 : Int) ≤ zi901.toInt ∧ zi901.toInt ≤ 131072)) (xp0 : zi901.toInt = (gN : Nat)) (xp1 : ((ln0 qa900 : Nat) : Int) < (gN : Nat)) (xp2 : gN ≤ 131072) : Met l yJ7_copyOf_59c91 (WS yJ7_copyOf_59c91 cJ7_copyOf_59c91 3 (some (.array .int))) { frames := 1, cells := 1, slots := gN, locals := 40 } (PB2 [.ref qa900, .int zi901] sz G cy ev (va_pl Ls0 (cellOf cy K0 ln0 hp0))) (va_Qr (fun _ : GU => True) (fun u a t => (fun (u : GU) (a : Nat) => NEWy [28000] K0 ln0 hp0 a 28 gN u.1 u.2.1 u.2.2.1 u.2.2.2) u a ∧ va_P G vwCl (GWx cy u) t.heap ∧ va_D (va_A (va_pl Ls0 (cellOf cy K0 ln0 hp0)) sz) (GWx cy u)) (va_A (va_pl Ls0 (cellOf cy K0 ln0 hp0)) sz)) 1 gN (va_A (va_pl Ls0 (cellOf cy K0 ln0 hp0)) sz) := by
  refine met_of2 (y := yJ7_copyOf_59c91) (L := 3) (av := [.ref qa900, .int zi901]) (Qc := fun A => va_Qr (fun _ : GU => True) (fun u a t => (fun (u : GU) (a : Nat) => NEWy [28000] K0 ln0 hp0 a 28 gN u.1 u.2.1 u.2.2.1 u.2.2.2) u a ∧ va_P G vwCl (GWx cy u) t.heap ∧ va_D A (GWx cy u)) A) (plainFor_of_name (by decide)) (Nat.le_of_ble_eq_true rfl) ?_
  intro p e s m below meth c hsz hx hb hr hml hown hT hlocks hin hK A hA hE hw hS ls hl
  have hw : PW G cy K0 ln0 Ls0 A hp0 s.heap := hw
  have hown : s.vm.findClass "java/util/Arrays" = some m.cls := hown
  have hl : lv_has ls 3 [(0, .ref qa900), (1, .int zi901)] := hl
  obtain ⟨Q, hQ⟩ : ∃ Q : State → Prop, Q = MQ below (va_Qr (fun _ : GU => True) (fun u a t => (fun (u : GU) (a : Nat) => NEWy [28000] K0 ln0 hp0 a 28 gN u.1 u.2.1 u.2.2.1 u.2.2.2) u a ∧ va_P G vwCl (GWx cy u) t.heap ∧ va_D A (GWx cy u)) A) ([.ref qa900, .int zi901] : List Value).toArray s 1 gN A := ⟨_, rfl⟩
  rw [← hQ]
  obtain ⟨K, ln, Ls, hW, gex, gfx, ok1, hKe, kd900, xp1, hw⟩ : ∃ (K ln : Nat → Nat) (Ls : List Nat), SW K ln Ls ∧ EXx K0 ln0 K ln ∧ FrX wsC K0 hp0 hp0 ∧ Ok K hp0 ∧ K = K0 ∧ (K qa900 = 28) ∧ (((ln qa900 : Nat) : Int) < (gN : Nat)) ∧ PW G cy K ln Ls A hp0 s.heap := ⟨K0, ln0, Ls0, hW0, EXx.rf, FrX.rf, ok0, rfl, kd900, xp1, hw⟩
  refine lv_iload_n hx hb dJ7_copyOf_59c91_0 rfl (lv_at hl 1 rfl) ?_
  refine lv_aload_n hx hb dJ7_copyOf_59c91_1 rfl (lv_at hl 0 rfl) ?_
  obtain ⟨zi1, ez2⟩ : ∃ z : Int32, Int32.ofNat (ln qa900) = z := ⟨_, rfl⟩
  refine p_alen (v := zi1) hx hb hK hw hW kd900 (by decide) rfl rfl ez2 dJ7_copyOf_59c91_2 ?_
  have hl3 : zi1.toInt = (ln qa900 : Nat) := ofNat_len ez2 (by omega)
  have bd4 : (0 : Int) ≤ zi1.toInt ∧ zi1.toInt ≤ 262144 := (by omega)
  refine lv_icmp_ne (tgt := 14) hx hb dJ7_copyOf_59c91_3 (by decide) (fun cn5 => ?_) (fun cn5 => ?_)
  · skip
    have tf6 : (zi901 : Int32).toInt ≠ (zi1 : Int32).toInt := fun e => cn5 (Int32.toInt_inj.mp e)
    refine lv_iload_n hx hb dJ7_copyOf_59c91_14 rfl (lv_at hl 1 rfl) ?_
    have gf17 : FrX wsC K0 hp0 hp0 := gfx
    have gexo := gex
    refine p_newI hx hb (hT _ tb_182) hK hw hS hA hW ok1 28 (by decide) rfl rfl (by decide) (by decide) (by decide) (Int32.not_lt.mpr (by rw [fa_le]; have := toi bc_0; omega)) (show (zi901 : Int32).toNatClampNeg = gN from by have := clampN (x := zi901) (by omega); omega) (by omega) (show 0 + 1 ≤ 1 from by omega) (show 0 + (gN) ≤ gN from by omega) dJ7_copyOf_59c91_15 (fun qa7 K ln Ls hp8 H hq9 hz10 hw hS => ?_)
    obtain ⟨ex12, hW, ok11, fx13, kd14, ln15, nw16⟩ := hq9
    have gfx : FrX wsC K0 hp0 hp8 := FrX.tr gf17 gex fx13 (by decide)
    have gex := EXx.tr gex ex12
    have kd18 := EXx.kd ex12 kd900 (by decide)
    have ln19 := EXx.le ex12 kd900 (by decide) rfl
    refine lv_astore_n (lv' := [(2, .ref qa7), (0, .ref qa900), (1, .int zi901)]) hx hb dJ7_copyOf_59c91_17 rfl hl (by decide) rfl (fun ls hl => ?_)
    refine lv_aload_n hx hb dJ7_copyOf_59c91_18 rfl (lv_at hl 1 rfl) ?_
    refine lv_iconst (v := 0) hx hb dJ7_copyOf_59c91_19 (by decide) ?_
    refine lv_aload_n hx hb dJ7_copyOf_59c91_20 rfl (lv_at hl 0 rfl) ?_
    refine lv_iconst (v := 0) hx hb dJ7_copyOf_59c91_21 (by decide) ?_
    refine lv_aload_n hx hb dJ7_copyOf_59c91_22 rfl (lv_at hl 1 rfl) ?_
    obtain ⟨zi20, ez21⟩ : ∃ z : Int32, Int32.ofNat (ln qa900) = z := ⟨_, rfl⟩
    refine p_alen (v := zi20) hx hb hK hw hW kd18 (by decide) rfl rfl ez21 dJ7_copyOf_59c91_23 ?_
    have hl22 : zi20.toInt = (ln qa900 : Nat) := ofNat_len ez21 (by omega)
    have bd23 : (0 : Int) ≤ zi20.toInt ∧ zi20.toInt ≤ 262144 := (by omega)
    refine lv_iload_n hx hb dJ7_copyOf_59c91_24 rfl (lv_at hl 2 rfl) ?_
    refine va_mmin hx hb (hml.trans hl.1.symm) hown (hT _ tb_1171) (hT _ tb_791) (hT _ tb_123) (hT _ tb_792) (Nat.le_of_ble_eq_true rfl) (Nat.le_of_ble_eq_true rfl) (show (0 + 1) ≤ 1 from by omega) (show (0 + (gN)) ≤ gN from by omega) dJ7_copyOf_59c91_25 (lv_topi (fun zi24 ea25 => ?_))
    have mn26 := min_le2 ea25
    have bd27 : (0 : Int) ≤ zi24.toInt ∧ zi24.toInt ≤ 131072 := b_min ea25 bd23 bd901 (by decide) (by decide) (by decide)
    refine p_copy1 (k0 := 28) (k1 := 28) (cq := 28000) (x0 := 0) (x1 := 0) (y0 := 0) (y1 := 0) (z0 := 0) (z1 := (ln qa900 : Nat)) hx hb (hml.trans hl.1.symm) hown (hT _ tb_1172) (hT _ tb_1054) (hT _ tb_1053) (hT _ tb_127) hK hw hS hW ok11 kd18 kd14 (by decide) (by decide) rfl rfl rfl ln15 (fun _ h9 => h9) bc_0 bc_0 (by omega) (by decide) (by decide) (by decide) (by omega) (by omega) (Nat.le_of_ble_eq_true rfl) (Nat.le_of_ble_eq_true rfl) dJ7_copyOf_59c91_28 rfl (fun hp28 ok30 F29 H locs hw hS => ?_)
    refine lv_aload_n hx hb dJ7_copyOf_59c91_31 rfl (lv_at hl 0 rfl) ?_
    rw [hQ]
    exact kgz_r hx hb hr hlocks hS ((K, ln, Ls, hp28) : GU) hw ⟨gex, hW, ok30, FrX.tr (FrX.tr (FrX.rf (ws := [28000])) gexo fx13 (by decide)) gex (FrX.of (show Fr [28000] K hp8 hp28 from F29)) (by decide), kd14, ln15, by rw [hKe] at nw16; exact nw16⟩ (show (0 + 1) ≤ 1 from by omega) (show (0 + (gN)) ≤ gN from by omega) dJ7_copyOf_59c91_32
  · skip
    have tf31 : zi901.toInt = zi1.toInt := congrArg Int32.toInt cn5
    have bd32 : (0 : Int) ≤ zi1.toInt ∧ zi1.toInt ≤ 131072 := r_eq_x (cn5).symm bd4 bd901 (by decide) (by decide)
    exact False.elim (by omega)

set_option maxRecDepth 100000 in
set_option maxHeartbeats 4000000 in
theorem cJ7_copyOf_59c91_1 (l : Launch) (G : va_G) (cy : Nat → ClassId) (ev : Ew) (K0 ln0 : Nat → Nat) (Ls0 : List Nat) (hW0 : SW K0 ln0 Ls0) (sz : Nat) (hp0 : Nat → Nat → Value) (ok0 : Ok K0 hp0) (qa900 : Nat) (zi901 : Int32) (gN : Nat) (kd900 : K0 qa900 = 29) (bd901 : ((0 : Int) ≤ zi901.toInt ∧ zi901.toInt ≤ 131072)) (xp0 : zi901.toInt = (gN : Nat)) (xp1 : ((ln0 qa900 : Nat) : Int) < (gN : Nat)) (xp2 : gN ≤ 131072) : Met l yJ7_copyOf_59c91 (WS yJ7_copyOf_59c91 cJ7_copyOf_59c91 3 (some (.array .int))) { frames := 1, cells := 1, slots := gN, locals := 40 } (PB2 [.ref qa900, .int zi901] sz G cy ev (va_pl Ls0 (cellOf cy K0 ln0 hp0))) (va_Qr (fun _ : GU => True) (fun u a t => (fun (u : GU) (a : Nat) => NEWy [29000] K0 ln0 hp0 a 29 gN u.1 u.2.1 u.2.2.1 u.2.2.2) u a ∧ va_P G vwCl (GWx cy u) t.heap ∧ va_D (va_A (va_pl Ls0 (cellOf cy K0 ln0 hp0)) sz) (GWx cy u)) (va_A (va_pl Ls0 (cellOf cy K0 ln0 hp0)) sz)) 1 gN (va_A (va_pl Ls0 (cellOf cy K0 ln0 hp0)) sz) := by
  refine met_of2 (y := yJ7_copyOf_59c91) (L := 3) (av := [.ref qa900, .int zi901]) (Qc := fun A => va_Qr (fun _ : GU => True) (fun u a t => (fun (u : GU) (a : Nat) => NEWy [29000] K0 ln0 hp0 a 29 gN u.1 u.2.1 u.2.2.1 u.2.2.2) u a ∧ va_P G vwCl (GWx cy u) t.heap ∧ va_D A (GWx cy u)) A) (plainFor_of_name (by decide)) (Nat.le_of_ble_eq_true rfl) ?_
  intro p e s m below meth c hsz hx hb hr hml hown hT hlocks hin hK A hA hE hw hS ls hl
  have hw : PW G cy K0 ln0 Ls0 A hp0 s.heap := hw
  have hown : s.vm.findClass "java/util/Arrays" = some m.cls := hown
  have hl : lv_has ls 3 [(0, .ref qa900), (1, .int zi901)] := hl
  obtain ⟨Q, hQ⟩ : ∃ Q : State → Prop, Q = MQ below (va_Qr (fun _ : GU => True) (fun u a t => (fun (u : GU) (a : Nat) => NEWy [29000] K0 ln0 hp0 a 29 gN u.1 u.2.1 u.2.2.1 u.2.2.2) u a ∧ va_P G vwCl (GWx cy u) t.heap ∧ va_D A (GWx cy u)) A) ([.ref qa900, .int zi901] : List Value).toArray s 1 gN A := ⟨_, rfl⟩
  rw [← hQ]
  obtain ⟨K, ln, Ls, hW, gex, gfx, ok1, hKe, kd900, xp1, hw⟩ : ∃ (K ln : Nat → Nat) (Ls : List Nat), SW K ln Ls ∧ EXx K0 ln0 K ln ∧ FrX wsC K0 hp0 hp0 ∧ Ok K hp0 ∧ K = K0 ∧ (K qa900 = 29) ∧ (((ln qa900 : Nat) : Int) < (gN : Nat)) ∧ PW G cy K ln Ls A hp0 s.heap := ⟨K0, ln0, Ls0, hW0, EXx.rf, FrX.rf, ok0, rfl, kd900, xp1, hw⟩
  refine lv_iload_n hx hb dJ7_copyOf_59c91_0 rfl (lv_at hl 1 rfl) ?_
  refine lv_aload_n hx hb dJ7_copyOf_59c91_1 rfl (lv_at hl 0 rfl) ?_
  obtain ⟨zi1, ez2⟩ : ∃ z : Int32, Int32.ofNat (ln qa900) = z := ⟨_, rfl⟩
  refine p_alen (v := zi1) hx hb hK hw hW kd900 (by decide) rfl rfl ez2 dJ7_copyOf_59c91_2 ?_
  have hl3 : zi1.toInt = (ln qa900 : Nat) := ofNat_len ez2 (by omega)
  have bd4 : (0 : Int) ≤ zi1.toInt ∧ zi1.toInt ≤ 262144 := (by omega)
  refine lv_icmp_ne (tgt := 14) hx hb dJ7_copyOf_59c91_3 (by decide) (fun cn5 => ?_) (fun cn5 => ?_)
  · skip
    have tf6 : (zi901 : Int32).toInt ≠ (zi1 : Int32).toInt := fun e => cn5 (Int32.toInt_inj.mp e)
    refine lv_iload_n hx hb dJ7_copyOf_59c91_14 rfl (lv_at hl 1 rfl) ?_
    have gf17 : FrX wsC K0 hp0 hp0 := gfx
    have gexo := gex
    refine p_newI hx hb (hT _ tb_182) hK hw hS hA hW ok1 29 (by decide) rfl rfl (by decide) (by decide) (by decide) (Int32.not_lt.mpr (by rw [fa_le]; have := toi bc_0; omega)) (show (zi901 : Int32).toNatClampNeg = gN from by have := clampN (x := zi901) (by omega); omega) (by omega) (show 0 + 1 ≤ 1 from by omega) (show 0 + (gN) ≤ gN from by omega) dJ7_copyOf_59c91_15 (fun qa7 K ln Ls hp8 H hq9 hz10 hw hS => ?_)
    obtain ⟨ex12, hW, ok11, fx13, kd14, ln15, nw16⟩ := hq9
    have gfx : FrX wsC K0 hp0 hp8 := FrX.tr gf17 gex fx13 (by decide)
    have gex := EXx.tr gex ex12
    have kd18 := EXx.kd ex12 kd900 (by decide)
    have ln19 := EXx.le ex12 kd900 (by decide) rfl
    refine lv_astore_n (lv' := [(2, .ref qa7), (0, .ref qa900), (1, .int zi901)]) hx hb dJ7_copyOf_59c91_17 rfl hl (by decide) rfl (fun ls hl => ?_)
    refine lv_aload_n hx hb dJ7_copyOf_59c91_18 rfl (lv_at hl 1 rfl) ?_
    refine lv_iconst (v := 0) hx hb dJ7_copyOf_59c91_19 (by decide) ?_
    refine lv_aload_n hx hb dJ7_copyOf_59c91_20 rfl (lv_at hl 0 rfl) ?_
    refine lv_iconst (v := 0) hx hb dJ7_copyOf_59c91_21 (by decide) ?_
    refine lv_aload_n hx hb dJ7_copyOf_59c91_22 rfl (lv_at hl 1 rfl) ?_
    obtain ⟨zi20, ez21⟩ : ∃ z : Int32, Int32.ofNat (ln qa900) = z := ⟨_, rfl⟩
    refine p_alen (v := zi20) hx hb hK hw hW kd18 (by decide) rfl rfl ez21 dJ7_copyOf_59c91_23 ?_
    have hl22 : zi20.toInt = (ln qa900 : Nat) := ofNat_len ez21 (by omega)
    have bd23 : (0 : Int) ≤ zi20.toInt ∧ zi20.toInt ≤ 262144 := (by omega)
    refine lv_iload_n hx hb dJ7_copyOf_59c91_24 rfl (lv_at hl 2 rfl) ?_
    refine va_mmin hx hb (hml.trans hl.1.symm) hown (hT _ tb_1171) (hT _ tb_791) (hT _ tb_123) (hT _ tb_792) (Nat.le_of_ble_eq_true rfl) (Nat.le_of_ble_eq_true rfl) (show (0 + 1) ≤ 1 from by omega) (show (0 + (gN)) ≤ gN from by omega) dJ7_copyOf_59c91_25 (lv_topi (fun zi24 ea25 => ?_))
    have mn26 := min_le2 ea25
    have bd27 : (0 : Int) ≤ zi24.toInt ∧ zi24.toInt ≤ 131072 := b_min ea25 bd23 bd901 (by decide) (by decide) (by decide)
    refine p_copy1 (k0 := 29) (k1 := 29) (cq := 29000) (x0 := 0) (x1 := 0) (y0 := 0) (y1 := 0) (z0 := 0) (z1 := (ln qa900 : Nat)) hx hb (hml.trans hl.1.symm) hown (hT _ tb_1172) (hT _ tb_1054) (hT _ tb_1053) (hT _ tb_127) hK hw hS hW ok11 kd18 kd14 (by decide) (by decide) rfl rfl rfl ln15 (fun _ h9 => h9) bc_0 bc_0 (by omega) (by decide) (by decide) (by decide) (by omega) (by omega) (Nat.le_of_ble_eq_true rfl) (Nat.le_of_ble_eq_true rfl) dJ7_copyOf_59c91_28 rfl (fun hp28 ok30 F29 H locs hw hS => ?_)
    refine lv_aload_n hx hb dJ7_copyOf_59c91_31 rfl (lv_at hl 0 rfl) ?_
    rw [hQ]
    exact kgz_r hx hb hr hlocks hS ((K, ln, Ls, hp28) : GU) hw ⟨gex, hW, ok30, FrX.tr (FrX.tr (FrX.rf (ws := [29000])) gexo fx13 (by decide)) gex (FrX.of (show Fr [29000] K hp8 hp28 from F29)) (by decide), kd14, ln15, by rw [hKe] at nw16; exact nw16⟩ (show (0 + 1) ≤ 1 from by omega) (show (0 + (gN)) ≤ gN from by omega) dJ7_copyOf_59c91_32
  · skip
    have tf31 : zi901.toInt = zi1.toInt := congrArg Int32.toInt cn5
    have bd32 : (0 : Int) ≤ zi1.toInt ∧ zi1.toInt ≤ 131072 := r_eq_x (cn5).symm bd4 bd901 (by decide) (by decide)
    exact False.elim (by omega)

set_option maxRecDepth 100000 in
set_option maxHeartbeats 4000000 in
theorem cJ7_copyOf_59c91_2 (l : Launch) (G : va_G) (cy : Nat → ClassId) (ev : Ew) (K0 ln0 : Nat → Nat) (Ls0 : List Nat) (hW0 : SW K0 ln0 Ls0) (sz : Nat) (hp0 : Nat → Nat → Value) (ok0 : Ok K0 hp0) (qa900 : Nat) (zi901 : Int32) (gN : Nat) (kd900 : K0 qa900 = 30) (bd901 : ((0 : Int) ≤ zi901.toInt ∧ zi901.toInt ≤ 131072)) (xp0 : zi901.toInt = (gN : Nat)) (xp1 : ((ln0 qa900 : Nat) : Int) < (gN : Nat)) (xp2 : gN ≤ 131072) : Met l yJ7_copyOf_59c91 (WS yJ7_copyOf_59c91 cJ7_copyOf_59c91 3 (some (.array .int))) { frames := 1, cells := 1, slots := gN, locals := 40 } (PB2 [.ref qa900, .int zi901] sz G cy ev (va_pl Ls0 (cellOf cy K0 ln0 hp0))) (va_Qr (fun _ : GU => True) (fun u a t => (fun (u : GU) (a : Nat) => NEWy [30000] K0 ln0 hp0 a 30 gN u.1 u.2.1 u.2.2.1 u.2.2.2) u a ∧ va_P G vwCl (GWx cy u) t.heap ∧ va_D (va_A (va_pl Ls0 (cellOf cy K0 ln0 hp0)) sz) (GWx cy u)) (va_A (va_pl Ls0 (cellOf cy K0 ln0 hp0)) sz)) 1 gN (va_A (va_pl Ls0 (cellOf cy K0 ln0 hp0)) sz) := by
  refine met_of2 (y := yJ7_copyOf_59c91) (L := 3) (av := [.ref qa900, .int zi901]) (Qc := fun A => va_Qr (fun _ : GU => True) (fun u a t => (fun (u : GU) (a : Nat) => NEWy [30000] K0 ln0 hp0 a 30 gN u.1 u.2.1 u.2.2.1 u.2.2.2) u a ∧ va_P G vwCl (GWx cy u) t.heap ∧ va_D A (GWx cy u)) A) (plainFor_of_name (by decide)) (Nat.le_of_ble_eq_true rfl) ?_
  intro p e s m below meth c hsz hx hb hr hml hown hT hlocks hin hK A hA hE hw hS ls hl
  have hw : PW G cy K0 ln0 Ls0 A hp0 s.heap := hw
  have hown : s.vm.findClass "java/util/Arrays" = some m.cls := hown
  have hl : lv_has ls 3 [(0, .ref qa900), (1, .int zi901)] := hl
  obtain ⟨Q, hQ⟩ : ∃ Q : State → Prop, Q = MQ below (va_Qr (fun _ : GU => True) (fun u a t => (fun (u : GU) (a : Nat) => NEWy [30000] K0 ln0 hp0 a 30 gN u.1 u.2.1 u.2.2.1 u.2.2.2) u a ∧ va_P G vwCl (GWx cy u) t.heap ∧ va_D A (GWx cy u)) A) ([.ref qa900, .int zi901] : List Value).toArray s 1 gN A := ⟨_, rfl⟩
  rw [← hQ]
  obtain ⟨K, ln, Ls, hW, gex, gfx, ok1, hKe, kd900, xp1, hw⟩ : ∃ (K ln : Nat → Nat) (Ls : List Nat), SW K ln Ls ∧ EXx K0 ln0 K ln ∧ FrX wsC K0 hp0 hp0 ∧ Ok K hp0 ∧ K = K0 ∧ (K qa900 = 30) ∧ (((ln qa900 : Nat) : Int) < (gN : Nat)) ∧ PW G cy K ln Ls A hp0 s.heap := ⟨K0, ln0, Ls0, hW0, EXx.rf, FrX.rf, ok0, rfl, kd900, xp1, hw⟩
  refine lv_iload_n hx hb dJ7_copyOf_59c91_0 rfl (lv_at hl 1 rfl) ?_
  refine lv_aload_n hx hb dJ7_copyOf_59c91_1 rfl (lv_at hl 0 rfl) ?_
  obtain ⟨zi1, ez2⟩ : ∃ z : Int32, Int32.ofNat (ln qa900) = z := ⟨_, rfl⟩
  refine p_alen (v := zi1) hx hb hK hw hW kd900 (by decide) rfl rfl ez2 dJ7_copyOf_59c91_2 ?_
  have hl3 : zi1.toInt = (ln qa900 : Nat) := ofNat_len ez2 (by omega)
  have bd4 : (0 : Int) ≤ zi1.toInt ∧ zi1.toInt ≤ 262144 := (by omega)
  refine lv_icmp_ne (tgt := 14) hx hb dJ7_copyOf_59c91_3 (by decide) (fun cn5 => ?_) (fun cn5 => ?_)
  · skip
    have tf6 : (zi901 : Int32).toInt ≠ (zi1 : Int32).toInt := fun e => cn5 (Int32.toInt_inj.mp e)
    refine lv_iload_n hx hb dJ7_copyOf_59c91_14 rfl (lv_at hl 1 rfl) ?_
    have gf17 : FrX wsC K0 hp0 hp0 := gfx
    have gexo := gex
    refine p_newI hx hb (hT _ tb_182) hK hw hS hA hW ok1 30 (by decide) rfl rfl (by decide) (by decide) (by decide) (Int32.not_lt.mpr (by rw [fa_le]; have := toi bc_0; omega)) (show (zi901 : Int32).toNatClampNeg = gN from by have := clampN (x := zi901) (by omega); omega) (by omega) (show 0 + 1 ≤ 1 from by omega) (show 0 + (gN) ≤ gN from by omega) dJ7_copyOf_59c91_15 (fun qa7 K ln Ls hp8 H hq9 hz10 hw hS => ?_)
    obtain ⟨ex12, hW, ok11, fx13, kd14, ln15, nw16⟩ := hq9
    have gfx : FrX wsC K0 hp0 hp8 := FrX.tr gf17 gex fx13 (by decide)
    have gex := EXx.tr gex ex12
    have kd18 := EXx.kd ex12 kd900 (by decide)
    have ln19 := EXx.le ex12 kd900 (by decide) rfl
    refine lv_astore_n (lv' := [(2, .ref qa7), (0, .ref qa900), (1, .int zi901)]) hx hb dJ7_copyOf_59c91_17 rfl hl (by decide) rfl (fun ls hl => ?_)
    refine lv_aload_n hx hb dJ7_copyOf_59c91_18 rfl (lv_at hl 1 rfl) ?_
    refine lv_iconst (v := 0) hx hb dJ7_copyOf_59c91_19 (by decide) ?_
    refine lv_aload_n hx hb dJ7_copyOf_59c91_20 rfl (lv_at hl 0 rfl) ?_
    refine lv_iconst (v := 0) hx hb dJ7_copyOf_59c91_21 (by decide) ?_
    refine lv_aload_n hx hb dJ7_copyOf_59c91_22 rfl (lv_at hl 1 rfl) ?_
    obtain ⟨zi20, ez21⟩ : ∃ z : Int32, Int32.ofNat (ln qa900) = z := ⟨_, rfl⟩
    refine p_alen (v := zi20) hx hb hK hw hW kd18 (by decide) rfl rfl ez21 dJ7_copyOf_59c91_23 ?_
    have hl22 : zi20.toInt = (ln qa900 : Nat) := ofNat_len ez21 (by omega)
    have bd23 : (0 : Int) ≤ zi20.toInt ∧ zi20.toInt ≤ 262144 := (by omega)
    refine lv_iload_n hx hb dJ7_copyOf_59c91_24 rfl (lv_at hl 2 rfl) ?_
    refine va_mmin hx hb (hml.trans hl.1.symm) hown (hT _ tb_1171) (hT _ tb_791) (hT _ tb_123) (hT _ tb_792) (Nat.le_of_ble_eq_true rfl) (Nat.le_of_ble_eq_true rfl) (show (0 + 1) ≤ 1 from by omega) (show (0 + (gN)) ≤ gN from by omega) dJ7_copyOf_59c91_25 (lv_topi (fun zi24 ea25 => ?_))
    have mn26 := min_le2 ea25
    have bd27 : (0 : Int) ≤ zi24.toInt ∧ zi24.toInt ≤ 131072 := b_min ea25 bd23 bd901 (by decide) (by decide) (by decide)
    refine p_copy1 (k0 := 30) (k1 := 30) (cq := 30000) (x0 := 0) (x1 := 0) (y0 := 0) (y1 := 0) (z0 := 0) (z1 := (ln qa900 : Nat)) hx hb (hml.trans hl.1.symm) hown (hT _ tb_1172) (hT _ tb_1054) (hT _ tb_1053) (hT _ tb_127) hK hw hS hW ok11 kd18 kd14 (by decide) (by decide) rfl rfl rfl ln15 (fun _ h9 => h9) bc_0 bc_0 (by omega) (by decide) (by decide) (by decide) (by omega) (by omega) (Nat.le_of_ble_eq_true rfl) (Nat.le_of_ble_eq_true rfl) dJ7_copyOf_59c91_28 rfl (fun hp28 ok30 F29 H locs hw hS => ?_)
    refine lv_aload_n hx hb dJ7_copyOf_59c91_31 rfl (lv_at hl 0 rfl) ?_
    rw [hQ]
    exact kgz_r hx hb hr hlocks hS ((K, ln, Ls, hp28) : GU) hw ⟨gex, hW, ok30, FrX.tr (FrX.tr (FrX.rf (ws := [30000])) gexo fx13 (by decide)) gex (FrX.of (show Fr [30000] K hp8 hp28 from F29)) (by decide), kd14, ln15, by rw [hKe] at nw16; exact nw16⟩ (show (0 + 1) ≤ 1 from by omega) (show (0 + (gN)) ≤ gN from by omega) dJ7_copyOf_59c91_32
  · skip
    have tf31 : zi901.toInt = zi1.toInt := congrArg Int32.toInt cn5
    have bd32 : (0 : Int) ≤ zi1.toInt ∧ zi1.toInt ≤ 131072 := r_eq_x (cn5).symm bd4 bd901 (by decide) (by decide)
    exact False.elim (by omega)

set_option maxRecDepth 100000 in
set_option maxHeartbeats 4000000 in
theorem cJ7_copyOf_59c91_3 (l : Launch) (G : va_G) (cy : Nat → ClassId) (ev : Ew) (K0 ln0 : Nat → Nat) (Ls0 : List Nat) (hW0 : SW K0 ln0 Ls0) (sz : Nat) (hp0 : Nat → Nat → Value) (ok0 : Ok K0 hp0) (qa900 : Nat) (zi901 : Int32) (gN : Nat) (kd900 : K0 qa900 = 31) (bd901 : ((0 : Int) ≤ zi901.toInt ∧ zi901.toInt ≤ 131072)) (xp0 : zi901.toInt = (gN : Nat)) (xp1 : ((ln0 qa900 : Nat) : Int) < (gN : Nat)) (xp2 : gN ≤ 131072) : Met l yJ7_copyOf_59c91 (WS yJ7_copyOf_59c91 cJ7_copyOf_59c91 3 (some (.array .int))) { frames := 1, cells := 1, slots := gN, locals := 40 } (PB2 [.ref qa900, .int zi901] sz G cy ev (va_pl Ls0 (cellOf cy K0 ln0 hp0))) (va_Qr (fun _ : GU => True) (fun u a t => (fun (u : GU) (a : Nat) => NEWy [31000] K0 ln0 hp0 a 31 gN u.1 u.2.1 u.2.2.1 u.2.2.2) u a ∧ va_P G vwCl (GWx cy u) t.heap ∧ va_D (va_A (va_pl Ls0 (cellOf cy K0 ln0 hp0)) sz) (GWx cy u)) (va_A (va_pl Ls0 (cellOf cy K0 ln0 hp0)) sz)) 1 gN (va_A (va_pl Ls0 (cellOf cy K0 ln0 hp0)) sz) := by
  refine met_of2 (y := yJ7_copyOf_59c91) (L := 3) (av := [.ref qa900, .int zi901]) (Qc := fun A => va_Qr (fun _ : GU => True) (fun u a t => (fun (u : GU) (a : Nat) => NEWy [31000] K0 ln0 hp0 a 31 gN u.1 u.2.1 u.2.2.1 u.2.2.2) u a ∧ va_P G vwCl (GWx cy u) t.heap ∧ va_D A (GWx cy u)) A) (plainFor_of_name (by decide)) (Nat.le_of_ble_eq_true rfl) ?_
  intro p e s m below meth c hsz hx hb hr hml hown hT hlocks hin hK A hA hE hw hS ls hl
  have hw : PW G cy K0 ln0 Ls0 A hp0 s.heap := hw
  have hown : s.vm.findClass "java/util/Arrays" = some m.cls := hown
  have hl : lv_has ls 3 [(0, .ref qa900), (1, .int zi901)] := hl
  obtain ⟨Q, hQ⟩ : ∃ Q : State → Prop, Q = MQ below (va_Qr (fun _ : GU => True) (fun u a t => (fun (u : GU) (a : Nat) => NEWy [31000] K0 ln0 hp0 a 31 gN u.1 u.2.1 u.2.2.1 u.2.2.2) u a ∧ va_P G vwCl (GWx cy u) t.heap ∧ va_D A (GWx cy u)) A) ([.ref qa900, .int zi901] : List Value).toArray s 1 gN A := ⟨_, rfl⟩
  rw [← hQ]
  obtain ⟨K, ln, Ls, hW, gex, gfx, ok1, hKe, kd900, xp1, hw⟩ : ∃ (K ln : Nat → Nat) (Ls : List Nat), SW K ln Ls ∧ EXx K0 ln0 K ln ∧ FrX wsC K0 hp0 hp0 ∧ Ok K hp0 ∧ K = K0 ∧ (K qa900 = 31) ∧ (((ln qa900 : Nat) : Int) < (gN : Nat)) ∧ PW G cy K ln Ls A hp0 s.heap := ⟨K0, ln0, Ls0, hW0, EXx.rf, FrX.rf, ok0, rfl, kd900, xp1, hw⟩
  refine lv_iload_n hx hb dJ7_copyOf_59c91_0 rfl (lv_at hl 1 rfl) ?_
  refine lv_aload_n hx hb dJ7_copyOf_59c91_1 rfl (lv_at hl 0 rfl) ?_
  obtain ⟨zi1, ez2⟩ : ∃ z : Int32, Int32.ofNat (ln qa900) = z := ⟨_, rfl⟩
  refine p_alen (v := zi1) hx hb hK hw hW kd900 (by decide) rfl rfl ez2 dJ7_copyOf_59c91_2 ?_
  have hl3 : zi1.toInt = (ln qa900 : Nat) := ofNat_len ez2 (by omega)
  have bd4 : (0 : Int) ≤ zi1.toInt ∧ zi1.toInt ≤ 262144 := (by omega)
  refine lv_icmp_ne (tgt := 14) hx hb dJ7_copyOf_59c91_3 (by decide) (fun cn5 => ?_) (fun cn5 => ?_)
  · skip
    have tf6 : (zi901 : Int32).toInt ≠ (zi1 : Int32).toInt := fun e => cn5 (Int32.toInt_inj.mp e)
    refine lv_iload_n hx hb dJ7_copyOf_59c91_14 rfl (lv_at hl 1 rfl) ?_
    have gf17 : FrX wsC K0 hp0 hp0 := gfx
    have gexo := gex
    refine p_newI hx hb (hT _ tb_182) hK hw hS hA hW ok1 31 (by decide) rfl rfl (by decide) (by decide) (by decide) (Int32.not_lt.mpr (by rw [fa_le]; have := toi bc_0; omega)) (show (zi901 : Int32).toNatClampNeg = gN from by have := clampN (x := zi901) (by omega); omega) (by omega) (show 0 + 1 ≤ 1 from by omega) (show 0 + (gN) ≤ gN from by omega) dJ7_copyOf_59c91_15 (fun qa7 K ln Ls hp8 H hq9 hz10 hw hS => ?_)
    obtain ⟨ex12, hW, ok11, fx13, kd14, ln15, nw16⟩ := hq9
    have gfx : FrX wsC K0 hp0 hp8 := FrX.tr gf17 gex fx13 (by decide)
    have gex := EXx.tr gex ex12
    have kd18 := EXx.kd ex12 kd900 (by decide)
    have ln19 := EXx.le ex12 kd900 (by decide) rfl
    refine lv_astore_n (lv' := [(2, .ref qa7), (0, .ref qa900), (1, .int zi901)]) hx hb dJ7_copyOf_59c91_17 rfl hl (by decide) rfl (fun ls hl => ?_)
    refine lv_aload_n hx hb dJ7_copyOf_59c91_18 rfl (lv_at hl 1 rfl) ?_
    refine lv_iconst (v := 0) hx hb dJ7_copyOf_59c91_19 (by decide) ?_
    refine lv_aload_n hx hb dJ7_copyOf_59c91_20 rfl (lv_at hl 0 rfl) ?_
    refine lv_iconst (v := 0) hx hb dJ7_copyOf_59c91_21 (by decide) ?_
    refine lv_aload_n hx hb dJ7_copyOf_59c91_22 rfl (lv_at hl 1 rfl) ?_
    obtain ⟨zi20, ez21⟩ : ∃ z : Int32, Int32.ofNat (ln qa900) = z := ⟨_, rfl⟩
    refine p_alen (v := zi20) hx hb hK hw hW kd18 (by decide) rfl rfl ez21 dJ7_copyOf_59c91_23 ?_
    have hl22 : zi20.toInt = (ln qa900 : Nat) := ofNat_len ez21 (by omega)
    have bd23 : (0 : Int) ≤ zi20.toInt ∧ zi20.toInt ≤ 262144 := (by omega)
    refine lv_iload_n hx hb dJ7_copyOf_59c91_24 rfl (lv_at hl 2 rfl) ?_
    refine va_mmin hx hb (hml.trans hl.1.symm) hown (hT _ tb_1171) (hT _ tb_791) (hT _ tb_123) (hT _ tb_792) (Nat.le_of_ble_eq_true rfl) (Nat.le_of_ble_eq_true rfl) (show (0 + 1) ≤ 1 from by omega) (show (0 + (gN)) ≤ gN from by omega) dJ7_copyOf_59c91_25 (lv_topi (fun zi24 ea25 => ?_))
    have mn26 := min_le2 ea25
    have bd27 : (0 : Int) ≤ zi24.toInt ∧ zi24.toInt ≤ 131072 := b_min ea25 bd23 bd901 (by decide) (by decide) (by decide)
    refine p_copy1 (k0 := 31) (k1 := 31) (cq := 31000) (x0 := 0) (x1 := 0) (y0 := 0) (y1 := 0) (z0 := 0) (z1 := (ln qa900 : Nat)) hx hb (hml.trans hl.1.symm) hown (hT _ tb_1172) (hT _ tb_1054) (hT _ tb_1053) (hT _ tb_127) hK hw hS hW ok11 kd18 kd14 (by decide) (by decide) rfl rfl rfl ln15 (fun _ h9 => h9) bc_0 bc_0 (by omega) (by decide) (by decide) (by decide) (by omega) (by omega) (Nat.le_of_ble_eq_true rfl) (Nat.le_of_ble_eq_true rfl) dJ7_copyOf_59c91_28 rfl (fun hp28 ok30 F29 H locs hw hS => ?_)
    refine lv_aload_n hx hb dJ7_copyOf_59c91_31 rfl (lv_at hl 0 rfl) ?_
    rw [hQ]
    exact kgz_r hx hb hr hlocks hS ((K, ln, Ls, hp28) : GU) hw ⟨gex, hW, ok30, FrX.tr (FrX.tr (FrX.rf (ws := [31000])) gexo fx13 (by decide)) gex (FrX.of (show Fr [31000] K hp8 hp28 from F29)) (by decide), kd14, ln15, by rw [hKe] at nw16; exact nw16⟩ (show (0 + 1) ≤ 1 from by omega) (show (0 + (gN)) ≤ gN from by omega) dJ7_copyOf_59c91_32
  · skip
    have tf31 : zi901.toInt = zi1.toInt := congrArg Int32.toInt cn5
    have bd32 : (0 : Int) ≤ zi1.toInt ∧ zi1.toInt ≤ 131072 := r_eq_x (cn5).symm bd4 bd901 (by decide) (by decide)
    exact False.elim (by omega)

set_option maxRecDepth 100000 in
set_option maxHeartbeats 4000000 in
theorem cJ7_copyOf_c38d5_0 (l : Launch) (G : va_G) (cy : Nat → ClassId) (ev : Ew) (K0 ln0 : Nat → Nat) (Ls0 : List Nat) (hW0 : SW K0 ln0 Ls0) (sz : Nat) (hp0 : Nat → Nat → Value) (ok0 : Ok K0 hp0) (qa900 : Nat) (zi901 : Int32) (gN : Nat) (kd900 : K0 qa900 = 32) (bd901 : ((0 : Int) ≤ zi901.toInt ∧ zi901.toInt ≤ 131072)) (xp0 : zi901.toInt = (gN : Nat)) (xp1 : ((ln0 qa900 : Nat) : Int) < (gN : Nat)) (xp2 : gN ≤ 131072) : Met l yJ7_copyOf_c38d5 (WS yJ7_copyOf_c38d5 cJ7_copyOf_c38d5 3 (some (.array .long))) { frames := 1, cells := 1, slots := gN, locals := 40 } (PB2 [.ref qa900, .int zi901] sz G cy ev (va_pl Ls0 (cellOf cy K0 ln0 hp0))) (va_Qr (fun _ : GU => True) (fun u a t => (fun (u : GU) (a : Nat) => NEWy [32000] K0 ln0 hp0 a 32 gN u.1 u.2.1 u.2.2.1 u.2.2.2) u a ∧ va_P G vwCl (GWx cy u) t.heap ∧ va_D (va_A (va_pl Ls0 (cellOf cy K0 ln0 hp0)) sz) (GWx cy u)) (va_A (va_pl Ls0 (cellOf cy K0 ln0 hp0)) sz)) 1 gN (va_A (va_pl Ls0 (cellOf cy K0 ln0 hp0)) sz) := by
  refine met_of2 (y := yJ7_copyOf_c38d5) (L := 3) (av := [.ref qa900, .int zi901]) (Qc := fun A => va_Qr (fun _ : GU => True) (fun u a t => (fun (u : GU) (a : Nat) => NEWy [32000] K0 ln0 hp0 a 32 gN u.1 u.2.1 u.2.2.1 u.2.2.2) u a ∧ va_P G vwCl (GWx cy u) t.heap ∧ va_D A (GWx cy u)) A) (plainFor_of_name (by decide)) (Nat.le_of_ble_eq_true rfl) ?_
  intro p e s m below meth c hsz hx hb hr hml hown hT hlocks hin hK A hA hE hw hS ls hl
  have hw : PW G cy K0 ln0 Ls0 A hp0 s.heap := hw
  have hown : s.vm.findClass "java/util/Arrays" = some m.cls := hown
  have hl : lv_has ls 3 [(0, .ref qa900), (1, .int zi901)] := hl
  obtain ⟨Q, hQ⟩ : ∃ Q : State → Prop, Q = MQ below (va_Qr (fun _ : GU => True) (fun u a t => (fun (u : GU) (a : Nat) => NEWy [32000] K0 ln0 hp0 a 32 gN u.1 u.2.1 u.2.2.1 u.2.2.2) u a ∧ va_P G vwCl (GWx cy u) t.heap ∧ va_D A (GWx cy u)) A) ([.ref qa900, .int zi901] : List Value).toArray s 1 gN A := ⟨_, rfl⟩
  rw [← hQ]
  obtain ⟨K, ln, Ls, hW, gex, gfx, ok1, hKe, kd900, xp1, hw⟩ : ∃ (K ln : Nat → Nat) (Ls : List Nat), SW K ln Ls ∧ EXx K0 ln0 K ln ∧ FrX wsC K0 hp0 hp0 ∧ Ok K hp0 ∧ K = K0 ∧ (K qa900 = 32) ∧ (((ln qa900 : Nat) : Int) < (gN : Nat)) ∧ PW G cy K ln Ls A hp0 s.heap := ⟨K0, ln0, Ls0, hW0, EXx.rf, FrX.rf, ok0, rfl, kd900, xp1, hw⟩
  refine lv_iload_n hx hb dJ7_copyOf_c38d5_0 rfl (lv_at hl 1 rfl) ?_
  refine lv_aload_n hx hb dJ7_copyOf_c38d5_1 rfl (lv_at hl 0 rfl) ?_
  obtain ⟨zi1, ez2⟩ : ∃ z : Int32, Int32.ofNat (ln qa900) = z := ⟨_, rfl⟩
  refine p_alen (v := zi1) hx hb hK hw hW kd900 (by decide) rfl rfl ez2 dJ7_copyOf_c38d5_2 ?_
  have hl3 : zi1.toInt = (ln qa900 : Nat) := ofNat_len ez2 (by omega)
  have bd4 : (0 : Int) ≤ zi1.toInt ∧ zi1.toInt ≤ 262144 := (by omega)
  refine lv_icmp_ne (tgt := 14) hx hb dJ7_copyOf_c38d5_3 (by decide) (fun cn5 => ?_) (fun cn5 => ?_)
  · skip
    have tf6 : (zi901 : Int32).toInt ≠ (zi1 : Int32).toInt := fun e => cn5 (Int32.toInt_inj.mp e)
    refine lv_iload_n hx hb dJ7_copyOf_c38d5_14 rfl (lv_at hl 1 rfl) ?_
    have gf17 : FrX wsC K0 hp0 hp0 := gfx
    have gexo := gex
    refine p_newL hx hb (hT _ tb_181) hK hw hS hA hW ok1 32 (by decide) rfl rfl (by decide) (Int32.not_lt.mpr (by rw [fa_le]; have := toi bc_0; omega)) (show (zi901 : Int32).toNatClampNeg = gN from by have := clampN (x := zi901) (by omega); omega) (by omega) (show 0 + 1 ≤ 1 from by omega) (show 0 + (gN) ≤ gN from by omega) dJ7_copyOf_c38d5_15 (fun qa7 K ln Ls hp8 H hq9 hw hS => ?_)
    obtain ⟨ex12, hW, ok11, fx13, kd14, ln15, nw16⟩ := hq9
    have gfx : FrX wsC K0 hp0 hp8 := FrX.tr gf17 gex fx13 (by decide)
    have gex := EXx.tr gex ex12
    have kd18 := EXx.kd ex12 kd900 (by decide)
    have ln19 := EXx.le ex12 kd900 (by decide) rfl
    refine lv_astore_n (lv' := [(2, .ref qa7), (0, .ref qa900), (1, .int zi901)]) hx hb dJ7_copyOf_c38d5_17 rfl hl (by decide) rfl (fun ls hl => ?_)
    refine lv_aload_n hx hb dJ7_copyOf_c38d5_18 rfl (lv_at hl 1 rfl) ?_
    refine lv_iconst (v := 0) hx hb dJ7_copyOf_c38d5_19 (by decide) ?_
    refine lv_aload_n hx hb dJ7_copyOf_c38d5_20 rfl (lv_at hl 0 rfl) ?_
    refine lv_iconst (v := 0) hx hb dJ7_copyOf_c38d5_21 (by decide) ?_
    refine lv_aload_n hx hb dJ7_copyOf_c38d5_22 rfl (lv_at hl 1 rfl) ?_
    obtain ⟨zi20, ez21⟩ : ∃ z : Int32, Int32.ofNat (ln qa900) = z := ⟨_, rfl⟩
    refine p_alen (v := zi20) hx hb hK hw hW kd18 (by decide) rfl rfl ez21 dJ7_copyOf_c38d5_23 ?_
    have hl22 : zi20.toInt = (ln qa900 : Nat) := ofNat_len ez21 (by omega)
    have bd23 : (0 : Int) ≤ zi20.toInt ∧ zi20.toInt ≤ 262144 := (by omega)
    refine lv_iload_n hx hb dJ7_copyOf_c38d5_24 rfl (lv_at hl 2 rfl) ?_
    refine va_mmin hx hb (hml.trans hl.1.symm) hown (hT _ tb_1171) (hT _ tb_791) (hT _ tb_123) (hT _ tb_792) (Nat.le_of_ble_eq_true rfl) (Nat.le_of_ble_eq_true rfl) (show (0 + 1) ≤ 1 from by omega) (show (0 + (gN)) ≤ gN from by omega) dJ7_copyOf_c38d5_25 (lv_topi (fun zi24 ea25 => ?_))
    have mn26 := min_le2 ea25
    have bd27 : (0 : Int) ≤ zi24.toInt ∧ zi24.toInt ≤ 131072 := b_min ea25 bd23 bd901 (by decide) (by decide) (by decide)
    refine p_copyL (k0 := 32) (k1 := 32) (cq := 32000) (x0 := 0) (x1 := 0) (y0 := 0) (y1 := 0) (z0 := 0) (z1 := (ln qa900 : Nat)) hx hb (hml.trans hl.1.symm) hown (hT _ tb_1172) (hT _ tb_1054) (hT _ tb_1053) (hT _ tb_127) hK hw hS hW ok11 kd18 kd14 (by decide) (by decide) rfl rfl rfl ln15 (fun _ h9 => h9) bc_0 bc_0 (by omega) (by decide) (by decide) (by decide) (by omega) (by omega) (Nat.le_of_ble_eq_true rfl) (Nat.le_of_ble_eq_true rfl) dJ7_copyOf_c38d5_28 rfl (fun hp28 ok30 F29 H locs hw hS => ?_)
    refine lv_aload_n hx hb dJ7_copyOf_c38d5_31 rfl (lv_at hl 0 rfl) ?_
    rw [hQ]
    exact kgz_r hx hb hr hlocks hS ((K, ln, Ls, hp28) : GU) hw ⟨gex, hW, ok30, FrX.tr (FrX.tr (FrX.rf (ws := [32000])) gexo fx13 (by decide)) gex (FrX.of (show Fr [32000] K hp8 hp28 from F29)) (by decide), kd14, ln15, by rw [hKe] at nw16; exact nw16⟩ (show (0 + 1) ≤ 1 from by omega) (show (0 + (gN)) ≤ gN from by omega) dJ7_copyOf_c38d5_32
  · skip
    have tf31 : zi901.toInt = zi1.toInt := congrArg Int32.toInt cn5
    have bd32 : (0 : Int) ≤ zi1.toInt ∧ zi1.toInt ≤ 131072 := r_eq_x (cn5).symm bd4 bd901 (by decide) (by decide)
    exact False.elim (by omega)

set_option maxRecDepth 100000 in
set_option maxHeartbeats 4000000 in
theorem cX3_grow_vGG_0 (l : Launch) (G : va_G) (cy : Nat → ClassId) (ev : Ew) (K0 ln0 : Nat → Nat) (Ls0 : List Nat) (hW0 : SW K0 ln0 Ls0) (sz : Nat) (hp0 : Nat → Nat → Value) (ok0 : Ok K0 hp0) (qa900 : Nat) (g0 : Nat) (kd900 : K0 qa900 = 4) (pdNS : NSx K0 ln0 hp0 g0) (xp0 : 2 * g0 ≤ 131072) : Met l yX3_grow (WS yX3_grow cX3_grow 3 none) { frames := 2, cells := 65536, slots := 917504, locals := 62 } (PB2 [.ref qa900] sz G cy ev (va_pl Ls0 (cellOf cy K0 ln0 hp0))) (QGv (fun u : GU × Nat => GPx wsC K0 ln0 hp0 g0 u.1 u.2 ∧ u.2 = 2 * g0) G cy g0 (va_A (va_pl Ls0 (cellOf cy K0 ln0 hp0)) sz)) 65536 917504 (va_A (va_pl Ls0 (cellOf cy K0 ln0 hp0)) sz) := by
  refine met_of2 (y := yX3_grow) (L := 3) (av := [.ref qa900]) (Qc := fun A => QGv (fun u : GU × Nat => GPx wsC K0 ln0 hp0 g0 u.1 u.2 ∧ u.2 = 2 * g0) G cy g0 A) (plainFor_of_name (by decide)) (Nat.le_of_ble_eq_true rfl) ?_
  intro p e s m below meth c hsz hx hb hr hml hown hT hlocks hin hK A hA hE hw hS ls hl
  have hw : PW G cy K0 ln0 Ls0 A hp0 s.heap := hw
  have hown : s.vm.findClass "LieClock$Nodes" = some m.cls := hown
  have hl : lv_has ls 3 [(0, .ref qa900)] := hl
  obtain ⟨Q, hQ⟩ : ∃ Q : State → Prop, Q = MQ below (QGv (fun u : GU × Nat => GPx wsC K0 ln0 hp0 g0 u.1 u.2 ∧ u.2 = 2 * g0) G cy g0 A) ([.ref qa900] : List Value).toArray s 65536 917504 A := ⟨_, rfl⟩
  rw [← hQ]
  obtain ⟨K, ln, Ls, gn, hW, gex, gfx, ok1, hKe, hga, hge, kd900, pdNS, xp0, hw⟩ : ∃ (K ln : Nat → Nat) (Ls : List Nat) (gn : Nat), SW K ln Ls ∧ EXx K0 ln0 K ln ∧ FrX wsC K0 hp0 hp0 ∧ Ok K hp0 ∧ K = K0 ∧ g0 ≤ gn ∧ gn = g0 ∧ (K qa900 = 4) ∧ (NSx K ln hp0 gn) ∧ (2 * gn ≤ 131072) ∧ PW G cy K ln Ls A hp0 s.heap := ⟨K0, ln0, Ls0, g0, hW0, EXx.rf, FrX.rf, ok0, rfl, Nat.le_refl _, rfl, kd900, pdNS, xp0, hw⟩
  have hg0 : 256 ≤ g0 ∧ g0 ≤ 131072 := by have := NSx.bd pdNS; omega
  have hgn := NSx.bd pdNS
  refine lv_iconst (v := 2) hx hb dX3_grow_0 (by decide) ?_
  refine lv_aload_n hx hb dX3_grow_1 rfl (lv_at hl 0 rfl) ?_
  obtain ⟨qa2, eq1, kd3⟩ := rd_4000 ok1 kd900
  have ln4 := (pdNS).ref kd900 (by decide) eq1
  refine p_get (ci := 3) (v := .ref qa2) (C := RX3) (T := TX3) (N := 7) hx hb hT iw_X3 hown hK hw hW kd900 (by decide) rfl rfl 0 (by decide) eq1 (hT _ tb_492) (fun _ h9 => h9) dX3_grow_2 ?_
  obtain ⟨zi5, ez6⟩ : ∃ z : Int32, Int32.ofNat (ln qa2) = z := ⟨_, rfl⟩
  refine p_alen (v := zi5) hx hb hK hw hW kd3 (by decide) rfl rfl ez6 dX3_grow_5 ?_
  have hl7 : zi5.toInt = (gn : Nat) := by have h9 := ofNat_len ez6 (by rw [ln4]; omega); rw [ln4] at h9; exact h9
  have bd8 : (256 : Int) ≤ zi5.toInt ∧ zi5.toInt ≤ 131072 := (by omega)
  refine lv_imul hx hb dX3_grow_6 (lv_topi (fun zi9 ea10 => ?_))
  have bd11 : (512 : Int) ≤ zi9.toInt ∧ zi9.toInt ≤ 262144 := b_imul ea10 bc_2 bd8 (by decide) (by decide) (by decide) (by decide) (by decide)
  have qe12 : zi9.toInt = (2 : Int32).toInt * (zi5 : Int32).toInt := e_imul (b := 2) (d := 131072) ea10 (b_wid2 bc_2 (by decide) (by decide)) (b_wid2 bd8 (by decide) (by decide)) (by decide)
  have qe13 : zi9.toInt = 2 * zi5.toInt := by have ha : (2 : Int32).toInt = 2 := (by decide); rw [ha] at qe12; exact qe12
  refine lv_istore_n (lv' := [(1, .int zi9), (0, .ref qa900)]) hx hb dX3_grow_7 rfl hl (by decide) rfl (fun ls hl => ?_)
  refine lv_iload_n hx hb dX3_grow_8 rfl (lv_at hl 0 rfl) ?_
  refine lv_ldc (v := 131072) hx hb hown (hT _ tb_1160) dX3_grow_9 ?_
  refine lv_icmp_le (tgt := 15) hx hb dX3_grow_11 (by decide) (fun cn14 => ?_) (fun cn14 => ?_)
  · skip
    have bd15 : (512 : Int) ≤ zi9.toInt ∧ zi9.toInt ≤ 131072 := r_le_x cn14 bd11 bc_131072 (by decide) (by decide)
    obtain ⟨qa17, eq16, kd18⟩ := rd_4001 ok1 kd900
    have ln19 := (pdNS).ref kd900 (by decide) eq16
    obtain ⟨qa21, eq20, kd22⟩ := rd_4002 ok1 kd900
    have ln23 := (pdNS).ref kd900 (by decide) eq20
    obtain ⟨qa25, eq24, kd26⟩ := rd_4003 ok1 kd900
    have ln27 := (pdNS).ref kd900 (by decide) eq24
    obtain ⟨qa29, eq28, kd30⟩ := rd_4004 ok1 kd900
    have ln31 := (pdNS).ref kd900 (by decide) eq28
    obtain ⟨qa33, eq32, kd34⟩ := rd_4005 ok1 kd900
    have ln35 := (pdNS).tab kd900 eq32
    obtain ⟨zi37, eq36, bd38⟩ := rd_4006 ok1 kd900
    have nz39 := (pdNS).sz kd900 eq36
    have uq := (pdNS).2.1
    refine lv_aload_n hx hb dX3_grow_15 rfl (lv_at hl 1 rfl) ?_
    refine lv_aload_n hx hb dX3_grow_16 rfl (lv_at hl 1 rfl) ?_
    refine p_get (ci := 3) (v := .ref qa2) (C := RX3) (T := TX3) (N := 7) hx hb hT iw_X3 hown hK hw hW kd900 (by decide) rfl rfl 0 (by decide) eq1 (hT _ tb_492) (fun _ h9 => h9) dX3_grow_17 ?_
    refine lv_iload_n hx hb dX3_grow_20 rfl (lv_at hl 0 rfl) ?_
    have gf47 : FrX wsC K0 hp0 hp0 := gfx
    refine kg_r hw hS hA (va_runS (As := [.ref qa2, .int zi9]) (rest := [.ref qa900]) ⟨hx, hb, hml, hown, hT⟩ (cJ7_copyOf_59c91_0 l G cy ev K ln Ls hW _ hp0 ok1 qa2 zi9 (2 * gn) kd3 (b_wid2 bd15 (by decide) (by decide)) (by omega) (by rw [ln4]; omega) (by omega)) (va_cwS 2 hT (good_S tb_1163 tb_1161 tb_1162 tb_116) rfl rfl rfl (by decide +kernel) ⟨Nat.le_of_ble_eq_true rfl, Nat.le_of_ble_eq_true rfl⟩) (PB2.preS hK hE hS hA hw) rfl rfl hl.1 rfl (lv_room (Nat.le_of_ble_eq_true rfl)) dX3_grow_21 ⟨(show 0 + 1 ≤ 65536 from by omega), (show 0 + (2 * gn) ≤ 917504 from by omega)⟩) (fun u qa48 H locs hq40 hw hS => ?_)
    obtain ⟨K, ln, Ls, hp41⟩ := u
    obtain ⟨ex43, hW, ok42, fx44, kd49, ln50, nw51⟩ := hq40
    have hw : PW G cy K ln Ls A hp41 H := hw
    have gfx : FrX wsC K0 hp0 hp41 := FrX.tr gf47 gex fx44 (by decide)
    have gex := EXx.tr gex ex43
    have kd52 := EXx.kd ex43 kd34 (by decide)
    have kd53 := EXx.kd ex43 kd18 (by decide)
    have kd54 := EXx.kd ex43 kd26 (by decide)
    have kd55 := EXx.kd ex43 kd3 (by decide)
    have kd56 := EXx.kd ex43 kd900 (by decide)
    have kd57 := EXx.kd ex43 kd22 (by decide)
    have kd58 := EXx.kd ex43 kd30 (by decide)
    have eq59 : hp41 qa900 0 = .ref qa2 := Eq.trans (FrX.at (cq := 4000) fx44 kd900 (by decide) (cd_o (by decide)) (by decide)) eq1
    have eq60 : hp41 qa900 1 = .ref qa17 := Eq.trans (FrX.at (cq := 4001) fx44 kd900 (by decide) (cd_o (by decide)) (by decide)) eq16
    have eq61 : hp41 qa900 2 = .ref qa21 := Eq.trans (FrX.at (cq := 4002) fx44 kd900 (by decide) (cd_o (by decide)) (by decide)) eq20
    have eq62 : hp41 qa900 3 = .ref qa25 := Eq.trans (FrX.at (cq := 4003) fx44 kd900 (by decide) (cd_o (by decide)) (by decide)) eq24
    have eq63 : hp41 qa900 4 = .ref qa29 := Eq.trans (FrX.at (cq := 4004) fx44 kd900 (by decide) (cd_o (by decide)) (by decide)) eq28
    have eq64 : hp41 qa900 5 = .ref qa33 := Eq.trans (FrX.at (cq := 4005) fx44 kd900 (by decide) (cd_o (by decide)) (by decide)) eq32
    have eq65 : hp41 qa900 6 = .int zi37 := Eq.trans (FrX.at (cq := 4006) fx44 kd900 (by decide) (cd_o (by decide)) (by decide)) eq36
    have ln66 := EXx.le ex43 kd3 (by decide) ln4
    have ln67 := EXx.le ex43 kd18 (by decide) ln19
    have ln68 := EXx.le ex43 kd22 (by decide) ln23
    have ln69 := EXx.le ex43 kd26 (by decide) ln27
    have ln70 := EXx.le ex43 kd30 (by decide) ln31
    have ln71 := EXx.le ex43 kd34 (by decide) ln35
    have uq := uq_ext uq nw51 kd49 (by decide)
    refine p_put (ci := 3) (v := .ref qa48) (ty := .array .int) (C := RX3) (T := TX3) (N := 7) hx hb hT iw_X3 tyX3 tyX3_ok nmX3 hown hK hw hS hW kd56 (by decide) rfl rfl 0 (by decide) (hT _ tb_492) (fun _ h9 => h9) rfl (by decide +kernel) rfl rfl dX3_grow_24 (fun hp72 eh73 H locs hw hS => ?_)
    have ok74 := wr_4000 kd49 ok42 kd56 eh73
    refine lv_aload_n hx hb dX3_grow_27 rfl (lv_at hl 1 rfl) ?_
    refine lv_aload_n hx hb dX3_grow_28 rfl (lv_at hl 1 rfl) ?_
    have eq75 : hp72 qa900 1 = .ref qa17 := Eq.trans (up_at eh73 (Or.inr (by decide))) eq60
    refine p_get (ci := 3) (v := .ref qa17) (C := RX3) (T := TX3) (N := 7) hx hb hT iw_X3 hown hK hw hW kd56 (by decide) rfl rfl 1 (by decide) eq75 (hT _ tb_495) (fun _ h9 => h9) dX3_grow_29 ?_
    refine lv_iload_n hx hb dX3_grow_32 rfl (lv_at hl 0 rfl) ?_
    have gf83 : FrX wsC K0 hp0 hp72 := (FrX.tr gfx gex (FrX.of (show Fr [4000] K hp41 hp72 from (Fr.put (cq := 4000) (Fr.rf) eh73 kd56 (cd_o (by decide)) (by decide)))) (by decide))
    have eq84 : hp72 qa900 2 = .ref qa21 := Eq.trans (up_at eh73 (Or.inr (by decide))) eq61
    have eq85 : hp72 qa900 3 = .ref qa25 := Eq.trans (up_at eh73 (Or.inr (by decide))) eq62
    have eq86 : hp72 qa900 4 = .ref qa29 := Eq.trans (up_at eh73 (Or.inr (by decide))) eq63
    have eq87 : hp72 qa900 5 = .ref qa33 := Eq.trans (up_at eh73 (Or.inr (by decide))) eq64
    have eq88 : hp72 qa900 6 = .int zi37 := Eq.trans (up_at eh73 (Or.inr (by decide))) eq65
    refine kg_r hw hS hA (va_runS (As := [.ref qa17, .int zi9]) (rest := [.ref qa900]) ⟨hx, hb, hml, hown, hT⟩ (cJ7_copyOf_59c91_1 l G cy ev K ln Ls hW _ hp72 ok74 qa17 zi9 (2 * gn) kd53 (b_wid2 bd15 (by decide) (by decide)) (by omega) (by rw [ln67]; omega) (by omega)) (va_cwS 2 hT (good_S tb_1163 tb_1161 tb_1162 tb_116) rfl rfl rfl (by decide +kernel) ⟨Nat.le_of_ble_eq_true rfl, Nat.le_of_ble_eq_true rfl⟩) (PB2.preS hK hE hS hA hw) rfl rfl hl.1 rfl (lv_room (Nat.le_of_ble_eq_true rfl)) dX3_grow_33 ⟨(show (0 + 1) + 1 ≤ 65536 from by omega), (show (0 + (2 * gn)) + (2 * gn) ≤ 917504 from by omega)⟩) (fun u qa89 H locs hq76 hw hS => ?_)
    obtain ⟨K, ln, Ls, hp77⟩ := u
    obtain ⟨ex79, hW, ok78, fx80, kd90, ln91, nw92⟩ := hq76
    have hw : PW G cy K ln Ls A hp77 H := hw
    have gfx : FrX wsC K0 hp0 hp77 := FrX.tr gf83 gex fx80 (by decide)
    have gex := EXx.tr gex ex79
    have kd93 := EXx.kd ex79 kd52 (by decide)
    have kd94 := EXx.kd ex79 kd53 (by decide)
    have kd95 := EXx.kd ex79 kd49 (by decide)
    have kd96 := EXx.kd ex79 kd54 (by decide)
    have kd97 := EXx.kd ex79 kd56 (by decide)
    have kd98 := EXx.kd ex79 kd57 (by decide)
    have kd99 := EXx.kd ex79 kd58 (by decide)
    have eq100 : hp77 qa900 0 = .ref qa48 := Eq.trans (FrX.at (cq := 4000) fx80 kd56 (by decide) (cd_o (by decide)) (by decide)) (hp_self eh73)
    have eq101 : hp77 qa900 1 = .ref qa17 := Eq.trans (FrX.at (cq := 4001) fx80 kd56 (by decide) (cd_o (by decide)) (by decide)) eq75
    have eq102 : hp77 qa900 2 = .ref qa21 := Eq.trans (FrX.at (cq := 4002) fx80 kd56 (by decide) (cd_o (by decide)) (by decide)) eq84
    have eq103 : hp77 qa900 3 = .ref qa25 := Eq.trans (FrX.at (cq := 4003) fx80 kd56 (by decide) (cd_o (by decide)) (by decide)) eq85
    have eq104 : hp77 qa900 4 = .ref qa29 := Eq.trans (FrX.at (cq := 4004) fx80 kd56 (by decide) (cd_o (by decide)) (by decide)) eq86
    have eq105 : hp77 qa900 5 = .ref qa33 := Eq.trans (FrX.at (cq := 4005) fx80 kd56 (by decide) (cd_o (by decide)) (by decide)) eq87
    have eq106 : hp77 qa900 6 = .int zi37 := Eq.trans (FrX.at (cq := 4006) fx80 kd56 (by decide) (cd_o (by decide)) (by decide)) eq88
    have ln107 := EXx.le ex79 kd55 (by decide) ln66
    have ln108 := EXx.le ex79 kd53 (by decide) ln67
    have ln109 := EXx.le ex79 kd57 (by decide) ln68
    have ln110 := EXx.le ex79 kd54 (by decide) ln69
    have ln111 := EXx.le ex79 kd58 (by decide) ln70
    have ln112 := EXx.le ex79 kd52 (by decide) ln71
    have ln113 := EXx.le ex79 kd49 (by decide) ln50
    have uq := uq_ext uq nw92 kd90 (by decide)
    refine p_put (ci := 3) (v := .ref qa89) (ty := .array .int) (C := RX3) (T := TX3) (N := 7) hx hb hT iw_X3 tyX3 tyX3_ok nmX3 hown hK hw hS hW kd97 (by decide) rfl rfl 1 (by decide) (hT _ tb_495) (fun _ h9 => h9) rfl (by decide +kernel) rfl rfl dX3_grow_36 (fun hp114 eh115 H locs hw hS => ?_)
    have ok116 := wr_4001 kd90 ok78 kd97 eh115
    refine lv_aload_n hx hb dX3_grow_39 rfl (lv_at hl 1 rfl) ?_
    refine lv_aload_n hx hb dX3_grow_40 rfl (lv_at hl 1 rfl) ?_
    have eq117 : hp114 qa900 2 = .ref qa21 := Eq.trans (up_at eh115 (Or.inr (by decide))) eq102
    refine p_get (ci := 3) (v := .ref qa21) (C := RX3) (T := TX3) (N := 7) hx hb hT iw_X3 hown hK hw hW kd97 (by decide) rfl rfl 2 (by decide) eq117 (hT _ tb_497) (fun _ h9 => h9) dX3_grow_41 ?_
    refine lv_iload_n hx hb dX3_grow_44 rfl (lv_at hl 0 rfl) ?_
    have gf125 : FrX wsC K0 hp0 hp114 := (FrX.tr gfx gex (FrX.of (show Fr [4001] K hp77 hp114 from (Fr.put (cq := 4001) (Fr.rf) eh115 kd97 (cd_o (by decide)) (by decide)))) (by decide))
    have eq126 : hp114 qa900 0 = .ref qa48 := Eq.trans (up_at eh115 (Or.inr (by decide))) eq100
    have eq127 : hp114 qa900 3 = .ref qa25 := Eq.trans (up_at eh115 (Or.inr (by decide))) eq103
    have eq128 : hp114 qa900 4 = .ref qa29 := Eq.trans (up_at eh115 (Or.inr (by decide))) eq104
    have eq129 : hp114 qa900 5 = .ref qa33 := Eq.trans (up_at eh115 (Or.inr (by decide))) eq105
    have eq130 : hp114 qa900 6 = .int zi37 := Eq.trans (up_at eh115 (Or.inr (by decide))) eq106
    refine kg_r hw hS hA (va_runS (As := [.ref qa21, .int zi9]) (rest := [.ref qa900]) ⟨hx, hb, hml, hown, hT⟩ (cJ7_copyOf_59c91_2 l G cy ev K ln Ls hW _ hp114 ok116 qa21 zi9 (2 * gn) kd98 (b_wid2 bd15 (by decide) (by decide)) (by omega) (by rw [ln109]; omega) (by omega)) (va_cwS 2 hT (good_S tb_1163 tb_1161 tb_1162 tb_116) rfl rfl rfl (by decide +kernel) ⟨Nat.le_of_ble_eq_true rfl, Nat.le_of_ble_eq_true rfl⟩) (PB2.preS hK hE hS hA hw) rfl rfl hl.1 rfl (lv_room (Nat.le_of_ble_eq_true rfl)) dX3_grow_45 ⟨(show ((0 + 1) + 1) + 1 ≤ 65536 from by omega), (show ((0 + (2 * gn)) + (2 * gn)) + (2 * gn) ≤ 917504 from by omega)⟩) (fun u qa131 H locs hq118 hw hS => ?_)
    obtain ⟨K, ln, Ls, hp119⟩ := u
    obtain ⟨ex121, hW, ok120, fx122, kd132, ln133, nw134⟩ := hq118
    have hw : PW G cy K ln Ls A hp119 H := hw
    have gfx : FrX wsC K0 hp0 hp119 := FrX.tr gf125 gex fx122 (by decide)
    have gex := EXx.tr gex ex121
    have kd135 := EXx.kd ex121 kd93 (by decide)
    have kd136 := EXx.kd ex121 kd95 (by decide)
    have kd137 := EXx.kd ex121 kd96 (by decide)
    have kd138 := EXx.kd ex121 kd90 (by decide)
    have kd139 := EXx.kd ex121 kd97 (by decide)
    have kd140 := EXx.kd ex121 kd98 (by decide)
    have kd141 := EXx.kd ex121 kd99 (by decide)
    have eq142 : hp119 qa900 0 = .ref qa48 := Eq.trans (FrX.at (cq := 4000) fx122 kd97 (by decide) (cd_o (by decide)) (by decide)) eq126
    have eq143 : hp119 qa900 1 = .ref qa89 := Eq.trans (FrX.at (cq := 4001) fx122 kd97 (by decide) (cd_o (by decide)) (by decide)) (hp_self eh115)
    have eq144 : hp119 qa900 2 = .ref qa21 := Eq.trans (FrX.at (cq := 4002) fx122 kd97 (by decide) (cd_o (by decide)) (by decide)) eq117
    have eq145 : hp119 qa900 3 = .ref qa25 := Eq.trans (FrX.at (cq := 4003) fx122 kd97 (by decide) (cd_o (by decide)) (by decide)) eq127
    have eq146 : hp119 qa900 4 = .ref qa29 := Eq.trans (FrX.at (cq := 4004) fx122 kd97 (by decide) (cd_o (by decide)) (by decide)) eq128
    have eq147 : hp119 qa900 5 = .ref qa33 := Eq.trans (FrX.at (cq := 4005) fx122 kd97 (by decide) (cd_o (by decide)) (by decide)) eq129
    have eq148 : hp119 qa900 6 = .int zi37 := Eq.trans (FrX.at (cq := 4006) fx122 kd97 (by decide) (cd_o (by decide)) (by decide)) eq130
    have ln149 := EXx.le ex121 kd94 (by decide) ln108
    have ln150 := EXx.le ex121 kd98 (by decide) ln109
    have ln151 := EXx.le ex121 kd96 (by decide) ln110
    have ln152 := EXx.le ex121 kd99 (by decide) ln111
    have ln153 := EXx.le ex121 kd93 (by decide) ln112
    have ln154 := EXx.le ex121 kd95 (by decide) ln113
    have ln155 := EXx.le ex121 kd90 (by decide) ln91
    have uq := uq_ext uq nw134 kd132 (by decide)
    refine p_put (ci := 3) (v := .ref qa131) (ty := .array .int) (C := RX3) (T := TX3) (N := 7) hx hb hT iw_X3 tyX3 tyX3_ok nmX3 hown hK hw hS hW kd139 (by decide) rfl rfl 2 (by decide) (hT _ tb_497) (fun _ h9 => h9) rfl (by decide +kernel) rfl rfl dX3_grow_48 (fun hp156 eh157 H locs hw hS => ?_)
    have ok158 := wr_4002 kd132 ok120 kd139 eh157
    refine lv_aload_n hx hb dX3_grow_51 rfl (lv_at hl 1 rfl) ?_
    refine lv_aload_n hx hb dX3_grow_52 rfl (lv_at hl 1 rfl) ?_
    have eq159 : hp156 qa900 3 = .ref qa25 := Eq.trans (up_at eh157 (Or.inr (by decide))) eq145
    refine p_get (ci := 3) (v := .ref qa25) (C := RX3) (T := TX3) (N := 7) hx hb hT iw_X3 hown hK hw hW kd139 (by decide) rfl rfl 3 (by decide) eq159 (hT _ tb_498) (fun _ h9 => h9) dX3_grow_53 ?_
    refine lv_iload_n hx hb dX3_grow_56 rfl (lv_at hl 0 rfl) ?_
    have gf167 : FrX wsC K0 hp0 hp156 := (FrX.tr gfx gex (FrX.of (show Fr [4002] K hp119 hp156 from (Fr.put (cq := 4002) (Fr.rf) eh157 kd139 (cd_o (by decide)) (by decide)))) (by decide))
    have eq168 : hp156 qa900 0 = .ref qa48 := Eq.trans (up_at eh157 (Or.inr (by decide))) eq142
    have eq169 : hp156 qa900 1 = .ref qa89 := Eq.trans (up_at eh157 (Or.inr (by decide))) eq143
    have eq170 : hp156 qa900 4 = .ref qa29 := Eq.trans (up_at eh157 (Or.inr (by decide))) eq146
    have eq171 : hp156 qa900 5 = .ref qa33 := Eq.trans (up_at eh157 (Or.inr (by decide))) eq147
    have eq172 : hp156 qa900 6 = .int zi37 := Eq.trans (up_at eh157 (Or.inr (by decide))) eq148
    refine kg_r hw hS hA (va_runS (As := [.ref qa25, .int zi9]) (rest := [.ref qa900]) ⟨hx, hb, hml, hown, hT⟩ (cJ7_copyOf_59c91_3 l G cy ev K ln Ls hW _ hp156 ok158 qa25 zi9 (2 * gn) kd137 (b_wid2 bd15 (by decide) (by decide)) (by omega) (by rw [ln151]; omega) (by omega)) (va_cwS 2 hT (good_S tb_1163 tb_1161 tb_1162 tb_116) rfl rfl rfl (by decide +kernel) ⟨Nat.le_of_ble_eq_true rfl, Nat.le_of_ble_eq_true rfl⟩) (PB2.preS hK hE hS hA hw) rfl rfl hl.1 rfl (lv_room (Nat.le_of_ble_eq_true rfl)) dX3_grow_57 ⟨(show (((0 + 1) + 1) + 1) + 1 ≤ 65536 from by omega), (show (((0 + (2 * gn)) + (2 * gn)) + (2 * gn)) + (2 * gn) ≤ 917504 from by omega)⟩) (fun u qa173 H locs hq160 hw hS => ?_)
    obtain ⟨K, ln, Ls, hp161⟩ := u
    obtain ⟨ex163, hW, ok162, fx164, kd174, ln175, nw176⟩ := hq160
    have hw : PW G cy K ln Ls A hp161 H := hw
    have gfx : FrX wsC K0 hp0 hp161 := FrX.tr gf167 gex fx164 (by decide)
    have gex := EXx.tr gex ex163
    have kd177 := EXx.kd ex163 kd135 (by decide)
    have kd178 := EXx.kd ex163 kd136 (by decide)
    have kd179 := EXx.kd ex163 kd137 (by decide)
    have kd180 := EXx.kd ex163 kd138 (by decide)
    have kd181 := EXx.kd ex163 kd139 (by decide)
    have kd182 := EXx.kd ex163 kd141 (by decide)
    have kd183 := EXx.kd ex163 kd132 (by decide)
    have eq184 : hp161 qa900 0 = .ref qa48 := Eq.trans (FrX.at (cq := 4000) fx164 kd139 (by decide) (cd_o (by decide)) (by decide)) eq168
    have eq185 : hp161 qa900 1 = .ref qa89 := Eq.trans (FrX.at (cq := 4001) fx164 kd139 (by decide) (cd_o (by decide)) (by decide)) eq169
    have eq186 : hp161 qa900 2 = .ref qa131 := Eq.trans (FrX.at (cq := 4002) fx164 kd139 (by decide) (cd_o (by decide)) (by decide)) (hp_self eh157)
    have eq187 : hp161 qa900 3 = .ref qa25 := Eq.trans (FrX.at (cq := 4003) fx164 kd139 (by decide) (cd_o (by decide)) (by decide)) eq159
    have eq188 : hp161 qa900 4 = .ref qa29 := Eq.trans (FrX.at (cq := 4004) fx164 kd139 (by decide) (cd_o (by decide)) (by decide)) eq170
    have eq189 : hp161 qa900 5 = .ref qa33 := Eq.trans (FrX.at (cq := 4005) fx164 kd139 (by decide) (cd_o (by decide)) (by decide)) eq171
    have eq190 : hp161 qa900 6 = .int zi37 := Eq.trans (FrX.at (cq := 4006) fx164 kd139 (by decide) (cd_o (by decide)) (by decide)) eq172
    have ln191 := EXx.le ex163 kd140 (by decide) ln150
    have ln192 := EXx.le ex163 kd137 (by decide) ln151
    have ln193 := EXx.le ex163 kd141 (by decide) ln152
    have ln194 := EXx.le ex163 kd135 (by decide) ln153
    have ln195 := EXx.le ex163 kd136 (by decide) ln154
    have ln196 := EXx.le ex163 kd138 (by decide) ln155
    have ln197 := EXx.le ex163 kd132 (by decide) ln133
    have uq := uq_ext uq nw176 kd174 (by decide)
    refine p_put (ci := 3) (v := .ref qa173) (ty := .array .int) (C := RX3) (T := TX3) (N := 7) hx hb hT iw_X3 tyX3 tyX3_ok nmX3 hown hK hw hS hW kd181 (by decide) rfl rfl 3 (by decide) (hT _ tb_498) (fun _ h9 => h9) rfl (by decide +kernel) rfl rfl dX3_grow_60 (fun hp198 eh199 H locs hw hS => ?_)
    have ok200 := wr_4003 kd174 ok162 kd181 eh199
    refine lv_aload_n hx hb dX3_grow_63 rfl (lv_at hl 1 rfl) ?_
    refine lv_aload_n hx hb dX3_grow_64 rfl (lv_at hl 1 rfl) ?_
    have eq201 : hp198 qa900 4 = .ref qa29 := Eq.trans (up_at eh199 (Or.inr (by decide))) eq188
    refine p_get (ci := 3) (v := .ref qa29) (C := RX3) (T := TX3) (N := 7) hx hb hT iw_X3 hown hK hw hW kd181 (by decide) rfl rfl 4 (by decide) eq201 (hT _ tb_500) (fun _ h9 => h9) dX3_grow_65 ?_
    refine lv_iload_n hx hb dX3_grow_68 rfl (lv_at hl 0 rfl) ?_
    have gf209 : FrX wsC K0 hp0 hp198 := (FrX.tr gfx gex (FrX.of (show Fr [4003] K hp161 hp198 from (Fr.put (cq := 4003) (Fr.rf) eh199 kd181 (cd_o (by decide)) (by decide)))) (by decide))
    have eq210 : hp198 qa900 0 = .ref qa48 := Eq.trans (up_at eh199 (Or.inr (by decide))) eq184
    have eq211 : hp198 qa900 1 = .ref qa89 := Eq.trans (up_at eh199 (Or.inr (by decide))) eq185
    have eq212 : hp198 qa900 2 = .ref qa131 := Eq.trans (up_at eh199 (Or.inr (by decide))) eq186
    have eq213 : hp198 qa900 5 = .ref qa33 := Eq.trans (up_at eh199 (Or.inr (by decide))) eq189
    have eq214 : hp198 qa900 6 = .int zi37 := Eq.trans (up_at eh199 (Or.inr (by decide))) eq190
    refine kg_r hw hS hA (va_runS (As := [.ref qa29, .int zi9]) (rest := [.ref qa900]) ⟨hx, hb, hml, hown, hT⟩ (cJ7_copyOf_c38d5_0 l G cy ev K ln Ls hW _ hp198 ok200 qa29 zi9 (2 * gn) kd182 (b_wid2 bd15 (by decide) (by decide)) (by omega) (by rw [ln193]; omega) (by omega)) (va_cwS 2 hT (good_S tb_1175 tb_1173 tb_1174 tb_116) rfl rfl rfl (by decide +kernel) ⟨Nat.le_of_ble_eq_true rfl, Nat.le_of_ble_eq_true rfl⟩) (PB2.preS hK hE hS hA hw) rfl rfl hl.1 rfl (lv_room (Nat.le_of_ble_eq_true rfl)) dX3_grow_69 ⟨(show ((((0 + 1) + 1) + 1) + 1) + 1 ≤ 65536 from by omega), (show ((((0 + (2 * gn)) + (2 * gn)) + (2 * gn)) + (2 * gn)) + (2 * gn) ≤ 917504 from by omega)⟩) (fun u qa215 H locs hq202 hw hS => ?_)
    obtain ⟨K, ln, Ls, hp203⟩ := u
    obtain ⟨ex205, hW, ok204, fx206, kd216, ln217, nw218⟩ := hq202
    have hw : PW G cy K ln Ls A hp203 H := hw
    have gfx : FrX wsC K0 hp0 hp203 := FrX.tr gf209 gex fx206 (by decide)
    have gex := EXx.tr gex ex205
    have kd219 := EXx.kd ex205 kd177 (by decide)
    have kd220 := EXx.kd ex205 kd178 (by decide)
    have kd221 := EXx.kd ex205 kd180 (by decide)
    have kd222 := EXx.kd ex205 kd181 (by decide)
    have kd223 := EXx.kd ex205 kd174 (by decide)
    have kd224 := EXx.kd ex205 kd182 (by decide)
    have kd225 := EXx.kd ex205 kd183 (by decide)
    have eq226 : hp203 qa900 0 = .ref qa48 := Eq.trans (FrX.at (cq := 4000) fx206 kd181 (by decide) (cd_o (by decide)) (by decide)) eq210
    have eq227 : hp203 qa900 1 = .ref qa89 := Eq.trans (FrX.at (cq := 4001) fx206 kd181 (by decide) (cd_o (by decide)) (by decide)) eq211
    have eq228 : hp203 qa900 2 = .ref qa131 := Eq.trans (FrX.at (cq := 4002) fx206 kd181 (by decide) (cd_o (by decide)) (by decide)) eq212
    have eq229 : hp203 qa900 3 = .ref qa173 := Eq.trans (FrX.at (cq := 4003) fx206 kd181 (by decide) (cd_o (by decide)) (by decide)) (hp_self eh199)
    have eq230 : hp203 qa900 4 = .ref qa29 := Eq.trans (FrX.at (cq := 4004) fx206 kd181 (by decide) (cd_o (by decide)) (by decide)) eq201
    have eq231 : hp203 qa900 5 = .ref qa33 := Eq.trans (FrX.at (cq := 4005) fx206 kd181 (by decide) (cd_o (by decide)) (by decide)) eq213
    have eq232 : hp203 qa900 6 = .int zi37 := Eq.trans (FrX.at (cq := 4006) fx206 kd181 (by decide) (cd_o (by decide)) (by decide)) eq214
    have ln233 := EXx.le ex205 kd179 (by decide) ln192
    have ln234 := EXx.le ex205 kd182 (by decide) ln193
    have ln235 := EXx.le ex205 kd177 (by decide) ln194
    have ln236 := EXx.le ex205 kd178 (by decide) ln195
    have ln237 := EXx.le ex205 kd180 (by decide) ln196
    have ln238 := EXx.le ex205 kd183 (by decide) ln197
    have ln239 := EXx.le ex205 kd174 (by decide) ln175
    have uq := uq_ext uq nw218 kd216 (by decide)
    refine p_put (ci := 3) (v := .ref qa215) (ty := .array .long) (C := RX3) (T := TX3) (N := 7) hx hb hT iw_X3 tyX3 tyX3_ok nmX3 hown hK hw hS hW kd222 (by decide) rfl rfl 4 (by decide) (hT _ tb_500) (fun _ h9 => h9) rfl (by decide +kernel) rfl rfl dX3_grow_72 (fun hp240 eh241 H locs hw hS => ?_)
    have ok242 := wr_4004 kd216 ok204 kd222 eh241
    refine lv_aload_n hx hb dX3_grow_75 rfl (lv_at hl 1 rfl) ?_
    refine lv_iconst (v := 2) hx hb dX3_grow_76 (by decide) ?_
    refine lv_iload_n hx hb dX3_grow_77 rfl (lv_at hl 0 rfl) ?_
    refine lv_imul hx hb dX3_grow_78 (lv_topi (fun zi243 ea244 => ?_))
    have bd245 : (1024 : Int) ≤ zi243.toInt ∧ zi243.toInt ≤ 262144 := b_imul ea244 bc_2 bd15 (by decide) (by decide) (by decide) (by decide) (by decide)
    have qe246 : zi243.toInt = (2 : Int32).toInt * (zi9 : Int32).toInt := e_imul (b := 2) (d := 131072) ea244 (b_wid2 bc_2 (by decide) (by decide)) (b_wid2 bd15 (by decide) (by decide)) (by decide)
    have qe247 : zi243.toInt = 2 * zi9.toInt := by have ha : (2 : Int32).toInt = 2 := (by decide); rw [ha] at qe246; exact qe246
    have gf258 : FrX wsC K0 hp0 hp240 := (FrX.tr gfx gex (FrX.of (show Fr [4004] K hp203 hp240 from (Fr.put (cq := 4004) (Fr.rf) eh241 kd222 (cd_o (by decide)) (by decide)))) (by decide))
    have gexo := gex
    have eq259 : hp240 qa900 0 = .ref qa48 := Eq.trans (up_at eh241 (Or.inr (by decide))) eq226
    have eq260 : hp240 qa900 1 = .ref qa89 := Eq.trans (up_at eh241 (Or.inr (by decide))) eq227
    have eq261 : hp240 qa900 2 = .ref qa131 := Eq.trans (up_at eh241 (Or.inr (by decide))) eq228
    have eq262 : hp240 qa900 3 = .ref qa173 := Eq.trans (up_at eh241 (Or.inr (by decide))) eq229
    have eq263 : hp240 qa900 5 = .ref qa33 := Eq.trans (up_at eh241 (Or.inr (by decide))) eq231
    have eq264 : hp240 qa900 6 = .int zi37 := Eq.trans (up_at eh241 (Or.inr (by decide))) eq232
    refine p_newI hx hb (hT _ tb_182) hK hw hS hA hW ok242 33 (by decide) rfl rfl (by decide) (by decide) (by decide) (Int32.not_lt.mpr (by rw [fa_le]; have := toi bc_0; omega)) (show (zi243 : Int32).toNatClampNeg = 2 * (2 * gn) from by have := clampN (x := zi243) (by omega); omega) (by omega) (show (((((0 + 1) + 1) + 1) + 1) + 1) + 1 ≤ 65536 from by omega) (show (((((0 + (2 * gn)) + (2 * gn)) + (2 * gn)) + (2 * gn)) + (2 * gn)) + (2 * (2 * gn)) ≤ 917504 from by omega) dX3_grow_79 (fun qa248 K ln Ls hp249 H hq250 hz251 hw hS => ?_)
    obtain ⟨ex253, hW, ok252, fx254, kd255, ln256, nw257⟩ := hq250
    have gfx : FrX wsC K0 hp0 hp249 := FrX.tr gf258 gex fx254 (by decide)
    have gex := EXx.tr gex ex253
    have kd265 := EXx.kd ex253 kd219 (by decide)
    have kd266 := EXx.kd ex253 kd220 (by decide)
    have kd267 := EXx.kd ex253 kd221 (by decide)
    have kd268 := EXx.kd ex253 kd222 (by decide)
    have kd269 := EXx.kd ex253 kd223 (by decide)
    have kd270 := EXx.kd ex253 kd224 (by decide)
    have kd271 := EXx.kd ex253 kd225 (by decide)
    have kd272 := EXx.kd ex253 kd216 (by decide)
    have eq273 : hp249 qa900 0 = .ref qa48 := Eq.trans (FrX.at (cq := 4000) fx254 kd222 (by decide) (cd_o (by decide)) (by decide)) eq259
    have eq274 : hp249 qa900 1 = .ref qa89 := Eq.trans (FrX.at (cq := 4001) fx254 kd222 (by decide) (cd_o (by decide)) (by decide)) eq260
    have eq275 : hp249 qa900 2 = .ref qa131 := Eq.trans (FrX.at (cq := 4002) fx254 kd222 (by decide) (cd_o (by decide)) (by decide)) eq261
    have eq276 : hp249 qa900 3 = .ref qa173 := Eq.trans (FrX.at (cq := 4003) fx254 kd222 (by decide) (cd_o (by decide)) (by decide)) eq262
    have eq277 : hp249 qa900 4 = .ref qa215 := Eq.trans (FrX.at (cq := 4004) fx254 kd222 (by decide) (cd_o (by decide)) (by decide)) (hp_self eh241)
    have eq278 : hp249 qa900 5 = .ref qa33 := Eq.trans (FrX.at (cq := 4005) fx254 kd222 (by decide) (cd_o (by decide)) (by decide)) eq263
    have eq279 : hp249 qa900 6 = .int zi37 := Eq.trans (FrX.at (cq := 4006) fx254 kd222 (by decide) (cd_o (by decide)) (by decide)) eq264
    have ln280 := EXx.le ex253 kd224 (by decide) ln234
    have ln281 := EXx.le ex253 kd219 (by decide) ln235
    have ln282 := EXx.le ex253 kd220 (by decide) ln236
    have ln283 := EXx.le ex253 kd221 (by decide) ln237
    have ln284 := EXx.le ex253 kd225 (by decide) ln238
    have ln285 := EXx.le ex253 kd223 (by decide) ln239
    have ln286 := EXx.le ex253 kd216 (by decide) ln217
    have uq := uq_ext uq nw257 kd255 (by decide)
    refine p_put (ci := 3) (v := .ref qa248) (ty := .array .int) (C := RX3) (T := TX3) (N := 7) hx hb hT iw_X3 tyX3 tyX3_ok nmX3 hown hK hw hS hW kd268 (by decide) rfl rfl 5 (by decide) (hT _ tb_502) (fun _ h9 => h9) rfl (by decide +kernel) rfl rfl dX3_grow_81 (fun hp287 eh288 H locs hw hS => ?_)
    have ok289 := wr_4005 kd255 ok252 kd268 eh288
    have eq290 : hp287 qa900 0 = .ref qa48 := Eq.trans (up_at eh288 (Or.inr (by decide))) eq273
    have eq291 : hp287 qa900 1 = .ref qa89 := Eq.trans (up_at eh288 (Or.inr (by decide))) eq274
    have eq292 : hp287 qa900 2 = .ref qa131 := Eq.trans (up_at eh288 (Or.inr (by decide))) eq275
    have eq293 : hp287 qa900 3 = .ref qa173 := Eq.trans (up_at eh288 (Or.inr (by decide))) eq276
    have eq294 : hp287 qa900 4 = .ref qa215 := Eq.trans (up_at eh288 (Or.inr (by decide))) eq277
    have eq295 : hp287 qa900 6 = .int zi37 := Eq.trans (up_at eh288 (Or.inr (by decide))) eq279
    have ns296 := NSx_grown (n := gn) uq (by omega) kd268 eq290 ln282 eq291 ln283 eq292 ln284 eq293 ln285 eq294 ln286 (hp_self eh288) ln256 (fun j => by rw [eh288, up2_row (kd_ne kd255 kd268 (by decide))]; exact hz251 j) (by rw [gi_of eq295]; omega)
    obtain ⟨gn, hgm⟩ : ∃ x : Nat, x = 2 * gn := ⟨_, rfl⟩
    rw [← hgm] at ns296
    have hgn := NSx.bd ns296
    have ln297 := (ns296).ref kd268 (by decide) eq290
    have ln298 := (ns296).ref kd268 (by decide) eq291
    have ln299 := (ns296).ref kd268 (by decide) eq292
    have ln300 := (ns296).ref kd268 (by decide) eq293
    have ln301 := (ns296).ref kd268 (by decide) eq294
    have ln302 := (ns296).tab kd268 (hp_self eh288)
    refine W.widen (k := gn - g0) (n := 14 * (gn - g0)) (by omega) (by omega) ?_
    have hga : g0 ≤ gn := by omega
    refine lv_iconst (v := 0) hx hb dX3_grow_84 (by decide) ?_
    refine lv_istore_n (lv' := [(2, .int 0), (1, .int zi9), (0, .ref qa900)]) hx hb dX3_grow_85 rfl hl (by decide) rfl (fun ls hl => ?_)
    have lp914 : ∀ (n912 : Nat) (hp821 : Nat → Nat → Value) (zi820 : Int32) (H : Heap) (locs : List Loc) (ls : Array Slot), 131072 - zi820.toInt < (n912 : Int) → Ok K hp821 → Fr [33000] K hp287 hp821 → ((0 : Int) ≤ zi820.toInt ∧ zi820.toInt ≤ 131072) → (NSx K ln hp821 gn) → lv_has ls 3 [(0, .ref qa900), (2, .int zi820)] → PW G cy K ln Ls A hp821 H → va_S A s.heap H locs → W p l e ({ frames := 2, cells := 65536, slots := 917504, locals := 62 } : Room) s m ([.ref qa900] : List Value).toArray below meth c H locs (gn - g0) (14 * (gn - g0)) Q (F0 m 86 ls []) := by
      intro n912
      induction n912 with
      | zero =>
        intro hp821 zi820 H locs ls hm915 ok823 F822 bd825 jx824 hl hw hS
        exact absurd hm915 (by have := bd825; omega)
      | succ n912 ih913 =>
        intro hp821 zi820 H locs ls hm915 ok823 F822 bd825 jx824 hl hw hS
        refine lv_iload_n hx hb dX3_grow_86 rfl (lv_at hl 1 rfl) ?_
        refine lv_aload_n hx hb dX3_grow_87 rfl (lv_at hl 0 rfl) ?_
        have eq916 : hp821 qa900 6 = .int zi37 := Eq.trans (Fr.at (cq := 4006) F822 kd268 (cd_o (by decide)) (by decide)) eq295
        refine p_get (ci := 3) (v := .int zi37) (C := RX3) (T := TX3) (N := 7) hx hb hT iw_X3 hown hK hw hW kd268 (by decide) rfl rfl 6 (by decide) eq916 (hT _ tb_503) (fun _ h9 => h9) dX3_grow_88 ?_
        refine lv_icmp_ge (tgt := 133) hx hb dX3_grow_91 (by decide) (fun cn917 => ?_) (fun cn917 => ?_)
        · skip
          have tf918 : zi37.toInt ≤ zi820.toInt := (fa_le _ _).mp cn917
          rw [hQ]
          exact kgz_v (n := g0) hx hb hr hlocks hS (((K, ln, Ls, hp821), gn) : GU × Nat) hw ⟨⟨gex, hW, ok823, (FrX.tr gfx gex (FrX.of (show Fr [4005, 33000] K hp249 hp821 from (Fr.tr (Fr.put (cq := 4005) (Fr.rf) eh288 kd268 (cd_o (by decide)) (by decide)) F822 (by decide)))) (by decide)), jx824, (by omega)⟩, by show _; omega⟩ (show (gn - g0) ≤ gn - g0 from by omega) (show (14 * (gn - g0)) ≤ 14 * (gn - g0) from by omega) (show (gn - g0) ≤ 65536 from by omega) (show (14 * (gn - g0)) ≤ 917504 from by omega) dX3_grow_133
        · skip
          have tf919 : zi820.toInt < zi37.toInt := (fa_lt _ _).mp (Int32.not_le.mp cn917)
          have bd920 : (0 : Int) ≤ zi820.toInt ∧ zi820.toInt ≤ 131071 := r_lt_x (Int32.not_le.mp cn917) bd825 bd38 (by decide) (by decide)
          have bd921 : (1 : Int) ≤ zi37.toInt ∧ zi37.toInt ≤ 131072 := r_lt_y (Int32.not_le.mp cn917) bd825 bd38 (by decide) (by decide)
          refine lv_aload_n hx hb dX3_grow_94 rfl (lv_at hl 0 rfl) ?_
          have eq922 : hp821 qa900 5 = .ref qa248 := Eq.trans (Fr.at (cq := 4005) F822 kd268 (cd_o (by decide)) (by decide)) (hp_self eh288)
          refine p_get (ci := 3) (v := .ref qa248) (C := RX3) (T := TX3) (N := 7) hx hb hT iw_X3 hown hK hw hW kd268 (by decide) rfl rfl 5 (by decide) eq922 (hT _ tb_502) (fun _ h9 => h9) dX3_grow_95 ?_
          refine lv_aload_n hx hb dX3_grow_98 rfl (lv_at hl 0 rfl) ?_
          refine lv_aload_n hx hb dX3_grow_99 rfl (lv_at hl 0 rfl) ?_
          have eq923 : hp821 qa900 0 = .ref qa48 := Eq.trans (Fr.at (cq := 4000) F822 kd268 (cd_o (by decide)) (by decide)) eq290
          refine p_get (ci := 3) (v := .ref qa48) (C := RX3) (T := TX3) (N := 7) hx hb hT iw_X3 hown hK hw hW kd268 (by decide) rfl rfl 0 (by decide) eq923 (hT _ tb_492) (fun _ h9 => h9) dX3_grow_100 ?_
          refine lv_iload_n hx hb dX3_grow_103 rfl (lv_at hl 1 rfl) ?_
          obtain ⟨zi925, eq924⟩ := rd_28000 ok823 kd266 ((zi820 : Int32).toNatClampNeg)
          refine p_iald (v := zi925) hx hb hK hw hW kd266 (by decide) rfl ln297 (vp_bv (by omega) (by omega)) eq924 dX3_grow_104 ?_
          refine lv_aload_n hx hb dX3_grow_105 rfl (lv_at hl 0 rfl) ?_
          have eq926 : hp821 qa900 1 = .ref qa89 := Eq.trans (Fr.at (cq := 4001) F822 kd268 (cd_o (by decide)) (by decide)) eq291
          refine p_get (ci := 3) (v := .ref qa89) (C := RX3) (T := TX3) (N := 7) hx hb hT iw_X3 hown hK hw hW kd268 (by decide) rfl rfl 1 (by decide) eq926 (hT _ tb_495) (fun _ h9 => h9) dX3_grow_106 ?_
          refine lv_iload_n hx hb dX3_grow_109 rfl (lv_at hl 1 rfl) ?_
          obtain ⟨zi928, eq927⟩ := rd_29000 ok823 kd267 ((zi820 : Int32).toNatClampNeg)
          refine p_iald (v := zi928) hx hb hK hw hW kd267 (by decide) rfl ln298 (vp_bv (by omega) (by omega)) eq927 dX3_grow_110 ?_
          refine lv_aload_n hx hb dX3_grow_111 rfl (lv_at hl 0 rfl) ?_
          have eq929 : hp821 qa900 2 = .ref qa131 := Eq.trans (Fr.at (cq := 4002) F822 kd268 (cd_o (by decide)) (by decide)) eq292
          refine p_get (ci := 3) (v := .ref qa131) (C := RX3) (T := TX3) (N := 7) hx hb hT iw_X3 hown hK hw hW kd268 (by decide) rfl rfl 2 (by decide) eq929 (hT _ tb_497) (fun _ h9 => h9) dX3_grow_112 ?_
          refine lv_iload_n hx hb dX3_grow_115 rfl (lv_at hl 1 rfl) ?_
          obtain ⟨zi931, eq930⟩ := rd_30000 ok823 kd271 ((zi820 : Int32).toNatClampNeg)
          refine p_iald (v := zi931) hx hb hK hw hW kd271 (by decide) rfl ln299 (vp_bv (by omega) (by omega)) eq930 dX3_grow_116 ?_
          refine kq_i hw hS hA (va_runS (As := [.int zi925, .int zi928, .int zi931]) (rest := [.ref qa900, .ref qa248]) ⟨hx, hb, hml, hown, hT⟩ (cX3_hash_0 l G cy ev K ln Ls hW _ hp821 ok823 zi925 zi928 zi931) (va_cwS 3 hT (good_S tb_1152 tb_1150 tb_1151 tb_117) rfl rfl rfl (by decide +kernel) ⟨Nat.le_of_ble_eq_true rfl, Nat.le_of_ble_eq_true rfl⟩) (PB2.preS hK hE hS hA hw) rfl rfl hl.1 rfl (lv_room (Nat.le_of_ble_eq_true rfl)) dX3_grow_117 ⟨(show (gn - g0) + 0 ≤ 65536 from by omega), (show (14 * (gn - g0)) + 0 ≤ 917504 from by omega)⟩) (fun zi936 hp932 H locs hq935 hw hS => ?_)
          obtain ⟨ok933, F934, xq937⟩ := hq935
          obtain rfl : hp821 = hp932 := (Fr.nil F934).symm
          have hw : PW G cy K ln Ls A hp821 H := hw
          refine kq_i hw hS hA (va_runV (As := [.int zi936]) (rest := [.ref qa248]) ⟨hx, hb, hml, hown, hT⟩ (cX3_freeSlot_0 l G cy ev K ln Ls hW _ hp821 ok823 qa900 zi936 gn kd268 jx824) (cwV 1 hT (good_V tb_1184 tb_1181 tb_1183 tb_35 tb_117) rfl rfl rfl (by decide +kernel) ⟨Nat.le_of_ble_eq_true rfl, Nat.le_of_ble_eq_true rfl⟩) (pool_preV (ci := 3) hK hE hS hA hw hW kd268 (by decide) rfl) rfl rfl hl.1 rfl (lv_room (Nat.le_of_ble_eq_true rfl)) dX3_grow_120 ⟨(show (gn - g0) + 0 ≤ 65536 from by omega), (show (14 * (gn - g0)) + 0 ≤ 917504 from by omega)⟩) (fun zi942 hp938 H locs hq941 hw hS => ?_)
          obtain ⟨ok939, F940, bd943, xq944⟩ := hq941
          obtain rfl : hp821 = hp938 := (Fr.nil F940).symm
          have hw : PW G cy K ln Ls A hp821 H := hw
          refine lv_iload_n hx hb dX3_grow_123 rfl (lv_at hl 1 rfl) ?_
          refine lv_iconst (v := 1) hx hb dX3_grow_124 (by decide) ?_
          refine lv_iadd hx hb dX3_grow_125 (lv_topi (fun zi945 ea946 => ?_))
          have bd947 : (1 : Int) ≤ zi945.toInt ∧ zi945.toInt ≤ 131072 := b_iadd ea946 bd920 bc_1 (by decide) (by decide) (by decide) (by decide)
          have qe948 : zi945.toInt = (zi820 : Int32).toInt + (1 : Int32).toInt := e_iadd ea946 bd920 bc_1 (by decide) (by decide)
          have qe949 : zi945.toInt = zi820.toInt + 1 := by have ha : (1 : Int32).toInt = 1 := (by decide); rw [ha] at qe948; exact qe948
          refine p_iast (x := zi945) hx hb hK hw hS hW kd255 (by decide) rfl ln302 (vp_bv (by omega) (by omega)) dX3_grow_126 (fun hp950 eh951 H locs hw hS => ?_)
          have ok952 := wr_33000 bd947 (by decide) (by decide) ok823 kd255 eh951
          have ns953 : NSx K ln hp950 gn := NSx_tab jx824 kd255 eh951 (by omega)
          obtain ⟨zi954, ea955⟩ : ∃ z : Int32, z = zi820 + 1 := ⟨_, rfl⟩
          have bd956 : (1 : Int) ≤ zi954.toInt ∧ zi954.toInt ≤ 131072 := b_iadd ea955 bd920 bc_1 (by decide) (by decide) (by decide) (by decide)
          have qe957 : zi954.toInt = (zi820 : Int32).toInt + (1 : Int32).toInt := e_iadd ea955 bd920 bc_1 (by decide) (by decide)
          have qe958 : zi954.toInt = zi820.toInt + 1 := by have ha : (1 : Int32).toInt = 1 := (by decide); rw [ha] at qe957; exact qe957
          refine lv_iinc (v := zi954) (lv' := [(2, .int zi954), (0, .ref qa900)]) hx hb dX3_grow_127 hl (k := 1) rfl ea955.symm (by decide) rfl (fun ls hl => ?_)
          refine lv_goto (tgt := 86) hx hb dX3_grow_130 (by decide) ?_
          exact ih913 hp950 zi954 _ _ ls (by have := hm915; have := qe958; omega) ok952 (Fr.put (cq := 33000) (Fr.tr (Fr.rf) F822 (by decide)) eh951 kd255 (cd_a (by decide)) (by decide)) (b_wid2 bd956 (by decide) (by decide)) ns953 (lv_sub hl [1, 0] rfl) hw hS
    exact lp914 _ hp287 0 _ _ ls (lp_in _) ok289 (Fr.rf) (b_wid2 bc_0 (by decide) (by decide)) ns296 (lv_sub hl [2, 0] rfl) hw hS
  · skip
    have bd959 : (131073 : Int) ≤ zi9.toInt ∧ zi9.toInt ≤ 262144 := r_lt_y (Int32.not_le.mp cn14) bc_131072 bd11 (by decide) (by decide)
    exact False.elim (by omega)
