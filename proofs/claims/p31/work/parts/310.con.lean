set_option maxRecDepth 100000 in
set_option maxHeartbeats 4000000 in
theorem cJ7_fill_53178_vV_0 (l : Launch) (G : va_G) (cy : Nat → ClassId) (ev : Ew) (K ln : Nat → Nat) (Ls : List Nat) (hW : SW K ln Ls) (sz : Nat) (hp0 : Nat → Nat → Value) (ok0 : Ok K hp0) (qa900 : Nat) (zi901 : Int32) (kd900 : K qa900 = 33) (bd901 : ((0 : Int) ≤ zi901.toInt ∧ zi901.toInt ≤ 0)) (xp0 : ln qa900 ≤ 262144) : Met l yJ7_fill_53178 (WS yJ7_fill_53178 cJ7_fill_53178 4 none) { frames := 0, cells := 0, slots := 0, locals := 0 } (PB2 [.ref qa900, .int zi901] sz G cy ev (va_pl Ls (cellOf cy K ln hp0))) (QBv (S := (Nat → Nat → Value)) (fun u : (Nat → Nat → Value) => Ok K u ∧ Fr [33000] K hp0 u ∧ (∀ k : Nat, k < ln qa900 → u qa900 k = .int zi901)) G (fun u => va_pl Ls (cellOf cy K ln u)) (va_A (va_pl Ls (cellOf cy K ln hp0)) sz)) 0 0 (va_A (va_pl Ls (cellOf cy K ln hp0)) sz) := by
  refine met_of2 (y := yJ7_fill_53178) (L := 4) (av := [.ref qa900, .int zi901]) (Qc := fun A => QBv (S := (Nat → Nat → Value)) (fun u : (Nat → Nat → Value) => Ok K u ∧ Fr [33000] K hp0 u ∧ (∀ k : Nat, k < ln qa900 → u qa900 k = .int zi901)) G (fun u => va_pl Ls (cellOf cy K ln u)) A) (plainFor_of_name (by decide)) (Nat.le_of_ble_eq_true rfl) ?_
  intro p e s m below meth c hsz hx hb hr hml hown hT hlocks hin hK A hA hE hw hS ls hl
  have hw : PW G cy K ln Ls A hp0 s.heap := hw
  have hown : s.vm.findClass "java/util/Arrays" = some m.cls := hown
  have hl : lv_has ls 4 [(0, .ref qa900), (1, .int zi901)] := hl
  obtain ⟨Q, hQ⟩ : ∃ Q : State → Prop, Q = MQ below (QBv (S := (Nat → Nat → Value)) (fun u : (Nat → Nat → Value) => Ok K u ∧ Fr [33000] K hp0 u ∧ (∀ k : Nat, k < ln qa900 → u qa900 k = .int zi901)) G (fun u => va_pl Ls (cellOf cy K ln u)) A) ([.ref qa900, .int zi901] : List Value).toArray s 0 0 A := ⟨_, rfl⟩
  rw [← hQ]
  refine lv_iconst (v := 0) hx hb dJ7_fill_53178_0 (by decide) ?_
  refine lv_istore_n (lv' := [(2, .int 0), (0, .ref qa900), (1, .int zi901)]) hx hb dJ7_fill_53178_1 rfl hl (by decide) rfl (fun ls hl => ?_)
  refine lv_aload_n hx hb dJ7_fill_53178_2 rfl (lv_at hl 1 rfl) ?_
  obtain ⟨zi1, ez2⟩ : ∃ z : Int32, Int32.ofNat (ln qa900) = z := ⟨_, rfl⟩
  refine p_alen (v := zi1) hx hb hK hw hW kd900 (by decide) rfl rfl ez2 dJ7_fill_53178_3 ?_
  have hl3 : zi1.toInt = (ln qa900 : Nat) := ofNat_len ez2 (by omega)
  have bd4 : (0 : Int) ≤ zi1.toInt ∧ zi1.toInt ≤ 262144 := (by omega)
  refine lv_istore_n (lv' := [(3, .int zi1), (2, .int 0), (0, .ref qa900), (1, .int zi901)]) hx hb dJ7_fill_53178_4 rfl hl (by decide) rfl (fun ls hl => ?_)
  have lp98 : ∀ (n96 : Nat) (hp63 : Nat → Nat → Value) (zi62 : Int32) (H : Heap) (locs : List Loc) (ls : Array Slot), 262144 - zi62.toInt < (n96 : Int) → Ok K hp63 → Fr [33000] K hp0 hp63 → ((0 : Int) ≤ zi62.toInt ∧ zi62.toInt ≤ 262144) → (∀ k : Nat, (k : Int) < (zi62 : Int32).toInt → hp63 qa900 k = .int zi901) → lv_has ls 4 [(0, .ref qa900), (1, .int zi901), (2, .int zi62), (3, .int zi1)] → PW G cy K ln Ls A hp63 H → va_S A s.heap H locs → W p l e ({ frames := 0, cells := 0, slots := 0, locals := 0 } : Room) s m ([.ref qa900, .int zi901] : List Value).toArray below meth c H locs 0 0 Q (F0 m 5 ls []) := by
    intro n96
    induction n96 with
    | zero =>
      intro hp63 zi62 H locs ls hm99 ok65 F64 bd67 jx66 hl hw hS
      exact absurd hm99 (by have := bd67; omega)
    | succ n96 ih97 =>
      intro hp63 zi62 H locs ls hm99 ok65 F64 bd67 jx66 hl hw hS
      refine lv_iload_n hx hb dJ7_fill_53178_5 rfl (lv_at hl 2 rfl) ?_
      refine lv_iload_n hx hb dJ7_fill_53178_6 rfl (lv_at hl 3 rfl) ?_
      refine lv_icmp_ge (tgt := 20) hx hb dJ7_fill_53178_7 (by decide) (fun cn100 => ?_) (fun cn100 => ?_)
      · skip
        have tf101 : zi1.toInt ≤ zi62.toInt := (fa_le _ _).mp cn100
        rw [hQ]
        exact kz_v hx hb hr hlocks hS hp63 hw ⟨ok65, (Fr.tr (Fr.rf) F64 (by decide)), (fun k hk => jx66 k (by omega))⟩ (Nat.le_of_ble_eq_true rfl) (Nat.le_of_ble_eq_true rfl) dJ7_fill_53178_20
      · skip
        have tf102 : zi62.toInt < zi1.toInt := (fa_lt _ _).mp (Int32.not_le.mp cn100)
        have bd103 : (0 : Int) ≤ zi62.toInt ∧ zi62.toInt ≤ 262143 := r_lt_x (Int32.not_le.mp cn100) bd67 bd4 (by decide) (by decide)
        have bd104 : (1 : Int) ≤ zi1.toInt ∧ zi1.toInt ≤ 262144 := r_lt_y (Int32.not_le.mp cn100) bd67 bd4 (by decide) (by decide)
        refine lv_aload_n hx hb dJ7_fill_53178_10 rfl (lv_at hl 0 rfl) ?_
        refine lv_iload_n hx hb dJ7_fill_53178_11 rfl (lv_at hl 2 rfl) ?_
        refine lv_iload_n hx hb dJ7_fill_53178_12 rfl (lv_at hl 1 rfl) ?_
        refine p_iast (x := zi901) hx hb hK hw hS hW kd900 (by decide) rfl rfl (vp_bv (by omega) (by omega)) dJ7_fill_53178_13 (fun hp105 eh106 H locs hw hS => ?_)
        have ok107 := wr_33000 bd901 (by decide) (by decide) ok65 kd900 eh106
        obtain ⟨zi108, ea109⟩ : ∃ z : Int32, z = zi62 + 1 := ⟨_, rfl⟩
        have bd110 : (1 : Int) ≤ zi108.toInt ∧ zi108.toInt ≤ 262144 := b_iadd ea109 bd103 bc_1 (by decide) (by decide) (by decide) (by decide)
        have qe111 : zi108.toInt = (zi62 : Int32).toInt + (1 : Int32).toInt := e_iadd ea109 bd103 bc_1 (by decide) (by decide)
        have qe112 : zi108.toInt = zi62.toInt + 1 := by have ha : (1 : Int32).toInt = 1 := (by decide); rw [ha] at qe111; exact qe111
        refine lv_iinc (v := zi108) (lv' := [(2, .int zi108), (0, .ref qa900), (1, .int zi901), (3, .int zi1)]) hx hb dJ7_fill_53178_14 hl (k := 2) rfl ea109.symm (by decide) rfl (fun ls hl => ?_)
        have fl113 := fill_step jx66 eh106 (by omega) qe112
        refine lv_goto (tgt := 5) hx hb dJ7_fill_53178_17 (by decide) ?_
        exact ih97 hp105 zi108 _ _ ls (by have := hm99; have := qe112; omega) ok107 (Fr.put (cq := 33000) (Fr.tr (Fr.rf) F64 (by decide)) eh106 kd900 (cd_a (by decide)) (by decide)) (b_wid2 bd110 (by decide) (by decide)) fl113 (lv_sub hl [1, 2, 0, 3] rfl) hw hS
  exact lp98 _ hp0 0 _ _ ls (lp_in _) ok0 (Fr.rf) (b_wid2 bc_0 (by decide) (by decide)) (fun k hk => absurd hk (by have := toi bc_0; omega)) (lv_sub hl [2, 3, 1, 0] rfl) hw hS

set_option maxRecDepth 100000 in
set_option maxHeartbeats 4000000 in
theorem cX3_clear_0 (l : Launch) (G : va_G) (cy : Nat → ClassId) (ev : Ew) (K ln : Nat → Nat) (Ls : List Nat) (hW : SW K ln Ls) (sz : Nat) (hp0 : Nat → Nat → Value) (ok0 : Ok K hp0) (qa900 : Nat) (gn : Nat) (kd900 : K qa900 = 4) (pdNS : NSx K ln hp0 gn) : Met l yX3_clear (WS yX3_clear cX3_clear 1 none) { frames := 1, cells := 0, slots := 0, locals := 23 } (PB2 [.ref qa900] sz G cy ev (va_pl Ls (cellOf cy K ln hp0))) (QBv (S := (Nat → Nat → Value)) (fun u : (Nat → Nat → Value) => Ok K u ∧ Fr [4006, 33000] K hp0 u ∧ (∃ z : Int32, u qa900 6 = .int z ∧ ((0 : Int) ≤ z.toInt ∧ z.toInt ≤ 0)) ∧ (NSx K ln u gn)) G (fun u => va_pl Ls (cellOf cy K ln u)) (va_A (va_pl Ls (cellOf cy K ln hp0)) sz)) 0 0 (va_A (va_pl Ls (cellOf cy K ln hp0)) sz) := by
  refine met_of2 (y := yX3_clear) (L := 1) (av := [.ref qa900]) (Qc := fun A => QBv (S := (Nat → Nat → Value)) (fun u : (Nat → Nat → Value) => Ok K u ∧ Fr [4006, 33000] K hp0 u ∧ (∃ z : Int32, u qa900 6 = .int z ∧ ((0 : Int) ≤ z.toInt ∧ z.toInt ≤ 0)) ∧ (NSx K ln u gn)) G (fun u => va_pl Ls (cellOf cy K ln u)) A) (plainFor_of_name (by decide)) (Nat.le_of_ble_eq_true rfl) ?_
  intro p e s m below meth c hsz hx hb hr hml hown hT hlocks hin hK A hA hE hw hS ls hl
  have hw : PW G cy K ln Ls A hp0 s.heap := hw
  have hown : s.vm.findClass "LieClock$Nodes" = some m.cls := hown
  have hl : lv_has ls 1 [(0, .ref qa900)] := hl
  obtain ⟨Q, hQ⟩ : ∃ Q : State → Prop, Q = MQ below (QBv (S := (Nat → Nat → Value)) (fun u : (Nat → Nat → Value) => Ok K u ∧ Fr [4006, 33000] K hp0 u ∧ (∃ z : Int32, u qa900 6 = .int z ∧ ((0 : Int) ≤ z.toInt ∧ z.toInt ≤ 0)) ∧ (NSx K ln u gn)) G (fun u => va_pl Ls (cellOf cy K ln u)) A) ([.ref qa900] : List Value).toArray s 0 0 A := ⟨_, rfl⟩
  rw [← hQ]
  have hgn := NSx.bd pdNS
  refine lv_aload_n hx hb dX3_clear_0 rfl (lv_at hl 0 rfl) ?_
  refine lv_iconst (v := 0) hx hb dX3_clear_1 (by decide) ?_
  refine p_put (ci := 3) (v := .int 0) (ty := .int) (C := RX3) (T := TX3) (N := 7) hx hb hT iw_X3 tyX3 tyX3_ok nmX3 hown hK hw hS hW kd900 (by decide) rfl rfl 6 (by decide) (hT _ tb_503) (fun _ h9 => h9) rfl (by decide +kernel) rfl rfl dX3_clear_2 (fun hp1 eh2 H locs hw hS => ?_)
  have ok3 := wr_4006 bc_0 (by decide) (by decide) ok0 kd900 eh2
  have ns4 : NSx K ln hp1 gn := NSx_size pdNS eh2 kd900 (by have := toi bc_0; omega) ok0
  refine lv_aload_n hx hb dX3_clear_5 rfl (lv_at hl 0 rfl) ?_
  obtain ⟨qa6, eq5, kd7⟩ := rd_4005 ok3 kd900
  have ln8 := (ns4).tab kd900 eq5
  refine p_get (ci := 3) (v := .ref qa6) (C := RX3) (T := TX3) (N := 7) hx hb hT iw_X3 hown hK hw hW kd900 (by decide) rfl rfl 5 (by decide) eq5 (hT _ tb_502) (fun _ h9 => h9) dX3_clear_6 ?_
  refine lv_iconst (v := 0) hx hb dX3_clear_9 (by decide) ?_
  refine kq_v hw hS hA (va_runS (As := [.ref qa6, .int 0]) (rest := []) ⟨hx, hb, hml, hown, hT⟩ (cJ7_fill_53178_vV_0 l G cy ev K ln Ls hW _ hp1 ok3 qa6 0 kd7 (b_wid2 bc_0 (by decide) (by decide)) (by rw [ln8]; omega)) (va_cwS 2 hT (good_S tb_483 tb_1137 tb_482 tb_116) rfl rfl rfl (by decide +kernel) ⟨Nat.le_of_ble_eq_true rfl, Nat.le_of_ble_eq_true rfl⟩) (PB2.preS hK hE hS hA hw) rfl rfl hl.1 rfl (lv_room (Nat.le_of_ble_eq_true rfl)) dX3_clear_10 ⟨Nat.le_of_ble_eq_true rfl, Nat.le_of_ble_eq_true rfl⟩) (fun hp9 H locs hq12 hw hS => ?_)
  obtain ⟨ok10, F11, xq14⟩ := hq12
  have hw : PW G cy K ln Ls A hp9 H := hw
  have ns15 : NSx K ln hp9 gn := NSx_fill ok3 ns4 kd900 eq5 F11 xq14
  have eq16 : hp9 qa900 6 = .int 0 := Eq.trans (Fr.at (cq := 4006) F11 kd900 (cd_o (by decide)) (by decide)) (hp_self eh2)
  rw [hQ]
  exact kz_v hx hb hr hlocks hS hp9 hw ⟨ok10, (Fr.tr (Fr.put (cq := 4006) (Fr.rf) eh2 kd900 (cd_o (by decide)) (by decide)) F11 (by decide)), ⟨_, eq16, b_wid2 bc_0 (by decide) (by decide)⟩, (ns15)⟩ (Nat.le_of_ble_eq_true rfl) (Nat.le_of_ble_eq_true rfl) dX3_clear_13

set_option maxRecDepth 100000 in
set_option maxHeartbeats 4000000 in
theorem cX3_load_0 (l : Launch) (G : va_G) (cy : Nat → ClassId) (ev : Ew) (K ln : Nat → Nat) (Ls : List Nat) (hW : SW K ln Ls) (sz : Nat) (hp0 : Nat → Nat → Value) (ok0 : Ok K hp0) (qa900 : Nat) (zi901 : Int32) (qa902 : Nat) (gn : Nat) (kd900 : K qa900 = 4) (kd902 : K qa902 = 8) (pdNS : NSx K ln hp0 gn) : Met l yX3_load (WS yX3_load cX3_load 3 none) { frames := 0, cells := 0, slots := 0, locals := 0 } (PB2 [.ref qa900, .int zi901, .ref qa902] sz G cy ev (va_pl Ls (cellOf cy K ln hp0))) (QBv (S := (Nat → Nat → Value)) (fun u : (Nat → Nat → Value) => Ok K u ∧ Fr [8000, 8001, 8002, 8004] K hp0 u) G (fun u => va_pl Ls (cellOf cy K ln u)) (va_A (va_pl Ls (cellOf cy K ln hp0)) sz)) 0 0 (va_A (va_pl Ls (cellOf cy K ln hp0)) sz) := by
  refine met_of2 (y := yX3_load) (L := 3) (av := [.ref qa900, .int zi901, .ref qa902]) (Qc := fun A => QBv (S := (Nat → Nat → Value)) (fun u : (Nat → Nat → Value) => Ok K u ∧ Fr [8000, 8001, 8002, 8004] K hp0 u) G (fun u => va_pl Ls (cellOf cy K ln u)) A) (plainFor_of_name (by decide)) (Nat.le_of_ble_eq_true rfl) ?_
  intro p e s m below meth c hsz hx hb hr hml hown hT hlocks hin hK A hA hE hw hS ls hl
  have hw : PW G cy K ln Ls A hp0 s.heap := hw
  have hown : s.vm.findClass "LieClock$Nodes" = some m.cls := hown
  have hl : lv_has ls 3 [(0, .ref qa900), (1, .int zi901), (2, .ref qa902)] := hl
  obtain ⟨Q, hQ⟩ : ∃ Q : State → Prop, Q = MQ below (QBv (S := (Nat → Nat → Value)) (fun u : (Nat → Nat → Value) => Ok K u ∧ Fr [8000, 8001, 8002, 8004] K hp0 u) G (fun u => va_pl Ls (cellOf cy K ln u)) A) ([.ref qa900, .int zi901, .ref qa902] : List Value).toArray s 0 0 A := ⟨_, rfl⟩
  rw [← hQ]
  have hgn := NSx.bd pdNS
  refine lv_iload_n hx hb dX3_load_0 rfl (lv_at hl 1 rfl) ?_
  refine lv_if_lt (tgt := 58) hx hb dX3_load_1 (by decide) (fun cn1 => ?_) (fun cn1 => ?_)
  · skip
    have bd2 : (-2147483648 : Int) ≤ zi901.toInt ∧ zi901.toInt ≤ -1 := r_lt_x cn1 (b_all zi901) bc_0 (by decide) (by decide)
    rw [hQ]
    exact kz_v hx hb hr hlocks hS hp0 hw ⟨ok0, (Fr.rf)⟩ (Nat.le_of_ble_eq_true rfl) (Nat.le_of_ble_eq_true rfl) dX3_load_58
  · skip
    have bd3 : (0 : Int) ≤ zi901.toInt ∧ zi901.toInt ≤ 2147483647 := r_le_y (Int32.not_lt.mp cn1) bc_0 (b_all zi901) (by decide) (by decide)
    refine lv_iload_n hx hb dX3_load_4 rfl (lv_at hl 1 rfl) ?_
    refine lv_aload_n hx hb dX3_load_5 rfl (lv_at hl 0 rfl) ?_
    obtain ⟨zi5, eq4, bd6⟩ := rd_4006 ok0 kd900
    have nz7 := (pdNS).sz kd900 eq4
    refine p_get (ci := 3) (v := .int zi5) (C := RX3) (T := TX3) (N := 7) hx hb hT iw_X3 hown hK hw hW kd900 (by decide) rfl rfl 6 (by decide) eq4 (hT _ tb_503) (fun _ h9 => h9) dX3_load_6 ?_
    refine lv_icmp_ge (tgt := 58) hx hb dX3_load_9 (by decide) (fun cn8 => ?_) (fun cn8 => ?_)
    · skip
      have tf9 : zi5.toInt ≤ zi901.toInt := (fa_le _ _).mp cn8
      rw [hQ]
      exact kz_v hx hb hr hlocks hS hp0 hw ⟨ok0, (Fr.rf)⟩ (Nat.le_of_ble_eq_true rfl) (Nat.le_of_ble_eq_true rfl) dX3_load_58
    · skip
      have tf10 : zi901.toInt < zi5.toInt := (fa_lt _ _).mp (Int32.not_le.mp cn8)
      have bd11 : (0 : Int) ≤ zi901.toInt ∧ zi901.toInt ≤ 131071 := r_lt_x (Int32.not_le.mp cn8) bd3 bd6 (by decide) (by decide)
      have bd12 : (1 : Int) ≤ zi5.toInt ∧ zi5.toInt ≤ 131072 := r_lt_y (Int32.not_le.mp cn8) bd3 bd6 (by decide) (by decide)
      refine lv_aload_n hx hb dX3_load_12 rfl (lv_at hl 2 rfl) ?_
      refine lv_aload_n hx hb dX3_load_13 rfl (lv_at hl 0 rfl) ?_
      obtain ⟨qa14, eq13, kd15⟩ := rd_4001 ok0 kd900
      have ln16 := (pdNS).ref kd900 (by decide) eq13
      refine p_get (ci := 3) (v := .ref qa14) (C := RX3) (T := TX3) (N := 7) hx hb hT iw_X3 hown hK hw hW kd900 (by decide) rfl rfl 1 (by decide) eq13 (hT _ tb_495) (fun _ h9 => h9) dX3_load_14 ?_
      refine lv_iload_n hx hb dX3_load_17 rfl (lv_at hl 1 rfl) ?_
      obtain ⟨zi18, eq17⟩ := rd_29000 ok0 kd15 ((zi901 : Int32).toNatClampNeg)
      refine p_iald (v := zi18) hx hb hK hw hW kd15 (by decide) rfl ln16 (vp_bv (by omega) (by omega)) eq17 dX3_load_18 ?_
      refine p_putN (ci := 7) (v := .int zi18) (ty := .int) (C := RX7) (T := TX7) (N := 13) hx hb hT iw_X7 tyX7 tyX7_ok nmX7 hown hK hw hS hW kd902 (by decide) rfl rfl 0 (by decide) (hK.fl nw_308) (fun _ h9 => h9) rfl (by decide +kernel) rfl rfl dX3_load_19 (fun hp19 eh20 H locs hw hS => ?_)
      have ok21 := wr_8000 ok0 kd902 eh20
      refine lv_aload_n hx hb dX3_load_22 rfl (lv_at hl 2 rfl) ?_
      refine lv_aload_n hx hb dX3_load_23 rfl (lv_at hl 0 rfl) ?_
      obtain ⟨qa23, eq22, kd24⟩ := rd_4000 ok21 kd900
      have pd25 : NSx K ln hp19 gn := NSx_fr ok0  (show Fr [8000] K hp0 hp19 from (Fr.put (cq := 8000) (Fr.rf) eh20 kd902 (cd_o (by decide)) (by decide))) (by decide) pdNS
      have ln26 := (pd25).ref kd900 (by decide) eq22
      refine p_get (ci := 3) (v := .ref qa23) (C := RX3) (T := TX3) (N := 7) hx hb hT iw_X3 hown hK hw hW kd900 (by decide) rfl rfl 0 (by decide) eq22 (hT _ tb_492) (fun _ h9 => h9) dX3_load_24 ?_
      refine lv_iload_n hx hb dX3_load_27 rfl (lv_at hl 1 rfl) ?_
      obtain ⟨zi28, eq27⟩ := rd_28000 ok21 kd24 ((zi901 : Int32).toNatClampNeg)
      refine p_iald (v := zi28) hx hb hK hw hW kd24 (by decide) rfl ln26 (vp_bv (by omega) (by omega)) eq27 dX3_load_28 ?_
      refine lv_ldc (v := 65535) hx hb hown (hT _ tb_1197) dX3_load_29 ?_
      refine lv_iand hx hb dX3_load_31 (lv_topi (fun zi29 ea30 => ?_))
      have bd31 : (0 : Int) ≤ zi29.toInt ∧ zi29.toInt ≤ 65535 := b_and_r ea30 bc_65535 (by decide) (by decide) (by decide)
      refine p_putN (ci := 7) (v := .int zi29) (ty := .int) (C := RX7) (T := TX7) (N := 13) hx hb hT iw_X7 tyX7 tyX7_ok nmX7 hown hK hw hS hW kd902 (by decide) rfl rfl 1 (by decide) (hK.fl nw_313) (fun _ h9 => h9) rfl (by decide +kernel) rfl rfl dX3_load_32 (fun hp32 eh33 H locs hw hS => ?_)
      have ok34 := wr_8001 ok21 kd902 eh33
      refine lv_aload_n hx hb dX3_load_35 rfl (lv_at hl 2 rfl) ?_
      refine lv_aload_n hx hb dX3_load_36 rfl (lv_at hl 0 rfl) ?_
      have eq35 : hp32 qa900 0 = .ref qa23 := Eq.trans (up_at eh33 (Or.inl (kd_ne kd900 kd902 (by decide)))) eq22
      refine p_get (ci := 3) (v := .ref qa23) (C := RX3) (T := TX3) (N := 7) hx hb hT iw_X3 hown hK hw hW kd900 (by decide) rfl rfl 0 (by decide) eq35 (hT _ tb_492) (fun _ h9 => h9) dX3_load_37 ?_
      refine lv_iload_n hx hb dX3_load_40 rfl (lv_at hl 1 rfl) ?_
      have eq36 : hp32 qa23 (zi901 : Int32).toNatClampNeg = .int zi28 := Eq.trans (up_at eh33 (Or.inl (kd_ne kd24 kd902 (by decide)))) eq27
      refine p_iald (v := zi28) hx hb hK hw hW kd24 (by decide) rfl ln26 (vp_bv (by omega) (by omega)) eq36 dX3_load_41 ?_
      refine lv_bipush (v := 16) hx hb dX3_load_42 (by decide) ?_
      refine lv_iushr hx hb dX3_load_44 rfl (lv_topi (fun zi37 ea38 => ?_))
      refine p_putN (ci := 7) (v := .int zi37) (ty := .int) (C := RX7) (T := TX7) (N := 13) hx hb hT iw_X7 tyX7 tyX7_ok nmX7 hown hK hw hS hW kd902 (by decide) rfl rfl 2 (by decide) (hK.fl nw_317) (fun _ h9 => h9) rfl (by decide +kernel) rfl rfl dX3_load_45 (fun hp39 eh40 H locs hw hS => ?_)
      have ok41 := wr_8002 ok34 kd902 eh40
      refine lv_aload_n hx hb dX3_load_48 rfl (lv_at hl 2 rfl) ?_
      refine lv_aload_n hx hb dX3_load_49 rfl (lv_at hl 0 rfl) ?_
      obtain ⟨qa43, eq42, kd44⟩ := rd_4002 ok41 kd900
      have pd45 : NSx K ln hp39 gn := NSx_fr ok21  (show Fr [8001, 8002] K hp19 hp39 from (Fr.put (cq := 8002) (Fr.put (cq := 8001) (Fr.rf) eh33 kd902 (cd_o (by decide)) (by decide)) eh40 kd902 (cd_o (by decide)) (by decide))) (by decide) pd25
      have ln46 := (pd45).ref kd900 (by decide) eq42
      refine p_get (ci := 3) (v := .ref qa43) (C := RX3) (T := TX3) (N := 7) hx hb hT iw_X3 hown hK hw hW kd900 (by decide) rfl rfl 2 (by decide) eq42 (hT _ tb_497) (fun _ h9 => h9) dX3_load_50 ?_
      refine lv_iload_n hx hb dX3_load_53 rfl (lv_at hl 1 rfl) ?_
      obtain ⟨zi48, eq47⟩ := rd_30000 ok41 kd44 ((zi901 : Int32).toNatClampNeg)
      refine p_iald (v := zi48) hx hb hK hw hW kd44 (by decide) rfl ln46 (vp_bv (by omega) (by omega)) eq47 dX3_load_54 ?_
      refine p_putN (ci := 7) (v := .int zi48) (ty := .int) (C := RX7) (T := TX7) (N := 13) hx hb hT iw_X7 tyX7 tyX7_ok nmX7 hown hK hw hS hW kd902 (by decide) rfl rfl 4 (by decide) (hK.fl nw_323) (fun _ h9 => h9) rfl (by decide +kernel) rfl rfl dX3_load_55 (fun hp49 eh50 H locs hw hS => ?_)
      have ok51 := wr_8004 ok41 kd902 eh50
      rw [hQ]
      exact kz_v hx hb hr hlocks hS hp49 hw ⟨ok51, (Fr.put (cq := 8004) (Fr.put (cq := 8002) (Fr.put (cq := 8001) (Fr.put (cq := 8000) (Fr.rf) eh20 kd902 (cd_o (by decide)) (by decide)) eh33 kd902 (cd_o (by decide)) (by decide)) eh40 kd902 (cd_o (by decide)) (by decide)) eh50 kd902 (cd_o (by decide)) (by decide))⟩ (Nat.le_of_ble_eq_true rfl) (Nat.le_of_ble_eq_true rfl) dX3_load_58

set_option maxRecDepth 100000 in
set_option maxHeartbeats 4000000 in
theorem cX3_packed_0 (l : Launch) (G : va_G) (cy : Nat → ClassId) (ev : Ew) (K ln : Nat → Nat) (Ls : List Nat) (hW : SW K ln Ls) (sz : Nat) (hp0 : Nat → Nat → Value) (ok0 : Ok K hp0) (qa900 : Nat) (kd900 : K qa900 = 8) : Met l yX3_packed (WS yX3_packed cX3_packed 1 (some .int)) { frames := 0, cells := 0, slots := 0, locals := 0 } (PB2 [.ref qa900] sz G cy ev (va_pl Ls (cellOf cy K ln hp0))) (QBi (S := (Nat → Nat → Value)) (fun (r : Int32) (u : (Nat → Nat → Value)) => Ok K u ∧ Fr [] K hp0 u ∧ (r = pkf (vI (hp0 qa900 1)) (vI (hp0 qa900 2)))) G (fun u => va_pl Ls (cellOf cy K ln u)) (va_A (va_pl Ls (cellOf cy K ln hp0)) sz)) 0 0 (va_A (va_pl Ls (cellOf cy K ln hp0)) sz) := by
  refine met_of2 (y := yX3_packed) (L := 1) (av := [.ref qa900]) (Qc := fun A => QBi (S := (Nat → Nat → Value)) (fun (r : Int32) (u : (Nat → Nat → Value)) => Ok K u ∧ Fr [] K hp0 u ∧ (r = pkf (vI (hp0 qa900 1)) (vI (hp0 qa900 2)))) G (fun u => va_pl Ls (cellOf cy K ln u)) A) (plainFor_of_name (by decide)) (Nat.le_of_ble_eq_true rfl) ?_
  intro p e s m below meth c hsz hx hb hr hml hown hT hlocks hin hK A hA hE hw hS ls hl
  have hw : PW G cy K ln Ls A hp0 s.heap := hw
  have hown : s.vm.findClass "LieClock$Nodes" = some m.cls := hown
  have hl : lv_has ls 1 [(0, .ref qa900)] := hl
  obtain ⟨Q, hQ⟩ : ∃ Q : State → Prop, Q = MQ below (QBi (S := (Nat → Nat → Value)) (fun (r : Int32) (u : (Nat → Nat → Value)) => Ok K u ∧ Fr [] K hp0 u ∧ (r = pkf (vI (hp0 qa900 1)) (vI (hp0 qa900 2)))) G (fun u => va_pl Ls (cellOf cy K ln u)) A) ([.ref qa900] : List Value).toArray s 0 0 A := ⟨_, rfl⟩
  rw [← hQ]
  refine lv_aload_n hx hb dX3_packed_0 rfl (lv_at hl 0 rfl) ?_
  obtain ⟨zi2, eq1⟩ := rd_8001 ok0 kd900
  refine p_getN (ci := 7) (v := .int zi2) (C := RX7) (T := TX7) (N := 13) hx hb hT iw_X7 hown hK hw hW kd900 (by decide) rfl rfl 1 (by decide) eq1 (hK.fl nw_313) (fun _ h9 => h9) dX3_packed_1 ?_
  refine lv_aload_n hx hb dX3_packed_4 rfl (lv_at hl 0 rfl) ?_
  obtain ⟨zi4, eq3⟩ := rd_8002 ok0 kd900
  refine p_getN (ci := 7) (v := .int zi4) (C := RX7) (T := TX7) (N := 13) hx hb hT iw_X7 hown hK hw hW kd900 (by decide) rfl rfl 2 (by decide) eq3 (hK.fl nw_317) (fun _ h9 => h9) dX3_packed_5 ?_
  refine lv_bipush (v := 16) hx hb dX3_packed_8 (by decide) ?_
  refine lv_ishl hx hb dX3_packed_10 (lv_topi (fun zi5 ea6 => ?_))
  refine lv_ior hx hb dX3_packed_11 (lv_topi (fun zi7 ea8 => ?_))
  rw [hQ]
  exact kz_i hx hb hr hlocks hS rfl hp0 hw ⟨ok0, (Fr.rf), (by rw [eq1, eq3, ea8, ea6]; rfl)⟩ (Nat.le_of_ble_eq_true rfl) (Nat.le_of_ble_eq_true rfl) dX3_packed_12

set_option maxRecDepth 100000 in
set_option maxHeartbeats 4000000 in
theorem cX3_hash_0 (l : Launch) (G : va_G) (cy : Nat → ClassId) (ev : Ew) (K ln : Nat → Nat) (Ls : List Nat) (hW : SW K ln Ls) (sz : Nat) (hp0 : Nat → Nat → Value) (ok0 : Ok K hp0) (zi900 : Int32) (zi901 : Int32) (zi902 : Int32)  : Met l yX3_hash (WS yX3_hash cX3_hash 4 (some .int)) { frames := 0, cells := 0, slots := 0, locals := 0 } (PB2 [.int zi900, .int zi901, .int zi902] sz G cy ev (va_pl Ls (cellOf cy K ln hp0))) (QBi (S := (Nat → Nat → Value)) (fun (r : Int32) (u : (Nat → Nat → Value)) => Ok K u ∧ Fr [] K hp0 u ∧ (r = hshf zi900 zi901 zi902)) G (fun u => va_pl Ls (cellOf cy K ln u)) (va_A (va_pl Ls (cellOf cy K ln hp0)) sz)) 0 0 (va_A (va_pl Ls (cellOf cy K ln hp0)) sz) := by
  refine met_of2 (y := yX3_hash) (L := 4) (av := [.int zi900, .int zi901, .int zi902]) (Qc := fun A => QBi (S := (Nat → Nat → Value)) (fun (r : Int32) (u : (Nat → Nat → Value)) => Ok K u ∧ Fr [] K hp0 u ∧ (r = hshf zi900 zi901 zi902)) G (fun u => va_pl Ls (cellOf cy K ln u)) A) (plainFor_of_name (by decide)) (Nat.le_of_ble_eq_true rfl) ?_
  intro p e s m below meth c hsz hx hb hr hml hown hT hlocks hin hK A hA hE hw hS ls hl
  have hw : PW G cy K ln Ls A hp0 s.heap := hw
  have hown : s.vm.findClass "LieClock$Nodes" = some m.cls := hown
  have hl : lv_has ls 4 [(0, .int zi900), (1, .int zi901), (2, .int zi902)] := hl
  obtain ⟨Q, hQ⟩ : ∃ Q : State → Prop, Q = MQ below (QBi (S := (Nat → Nat → Value)) (fun (r : Int32) (u : (Nat → Nat → Value)) => Ok K u ∧ Fr [] K hp0 u ∧ (r = hshf zi900 zi901 zi902)) G (fun u => va_pl Ls (cellOf cy K ln u)) A) ([.int zi900, .int zi901, .int zi902] : List Value).toArray s 0 0 A := ⟨_, rfl⟩
  rw [← hQ]
  refine lv_iload_n hx hb dX3_hash_0 rfl (lv_at hl 0 rfl) ?_
  refine lv_ldc (v := (-1640531535)) hx hb hown (hT _ tb_1153) dX3_hash_1 ?_
  refine lv_imul hx hb dX3_hash_3 (lv_topi (fun zi1 ea2 => ?_))
  refine lv_iload_n hx hb dX3_hash_4 rfl (lv_at hl 1 rfl) ?_
  refine lv_ldc (v := (-2048144789)) hx hb hown (hT _ tb_1154) dX3_hash_5 ?_
  refine lv_imul hx hb dX3_hash_7 (lv_topi (fun zi3 ea4 => ?_))
  refine lv_iadd hx hb dX3_hash_8 (lv_topi (fun zi5 ea6 => ?_))
  refine lv_iload_n hx hb dX3_hash_9 rfl (lv_at hl 2 rfl) ?_
  refine lv_ldc (v := (-1028477387)) hx hb hown (hT _ tb_1155) dX3_hash_10 ?_
  refine lv_imul hx hb dX3_hash_12 (lv_topi (fun zi7 ea8 => ?_))
  refine lv_iadd hx hb dX3_hash_13 (lv_topi (fun zi9 ea10 => ?_))
  refine lv_istore_n (lv' := [(3, .int zi9), (0, .int zi900), (1, .int zi901), (2, .int zi902)]) hx hb dX3_hash_14 rfl hl (by decide) rfl (fun ls hl => ?_)
  refine lv_iload_n hx hb dX3_hash_15 rfl (lv_at hl 0 rfl) ?_
  refine lv_iload_n hx hb dX3_hash_16 rfl (lv_at hl 0 rfl) ?_
  refine lv_bipush (v := 15) hx hb dX3_hash_17 (by decide) ?_
  refine lv_iushr hx hb dX3_hash_19 rfl (lv_topi (fun zi11 ea12 => ?_))
  refine lv_ixor hx hb dX3_hash_20 (lv_topi (fun zi13 ea14 => ?_))
  rw [hQ]
  exact kz_i hx hb hr hlocks hS rfl hp0 hw ⟨ok0, (Fr.rf), (by simp only [hshf, ea2, ea4, ea6, ea8, ea10, ea12, ea14])⟩ (Nat.le_of_ble_eq_true rfl) (Nat.le_of_ble_eq_true rfl) dX3_hash_21

set_option maxRecDepth 100000 in
set_option maxHeartbeats 4000000 in
theorem cX3_slotOf_0 (l : Launch) (G : va_G) (cy : Nat → ClassId) (ev : Ew) (K ln : Nat → Nat) (Ls : List Nat) (hW : SW K ln Ls) (sz : Nat) (hp0 : Nat → Nat → Value) (ok0 : Ok K hp0) (qa900 : Nat) (qa901 : Nat) (zi902 : Int32) (gn : Nat) (kd900 : K qa900 = 4) (kd901 : K qa901 = 8) (pdNS : NSx K ln hp0 gn) : Met l yX3_slotOf (WS yX3_slotOf cX3_slotOf 9 (some .int)) { frames := 1, cells := 0, slots := 0, locals := 23 } (PB2 [.ref qa900, .ref qa901, .int zi902] sz G cy ev (va_pl Ls (cellOf cy K ln hp0))) (QBi (S := (Nat → Nat → Value)) (fun (r : Int32) (u : (Nat → Nat → Value)) => Ok K u ∧ Fr [] K hp0 u ∧ ((-1 : Int) ≤ r.toInt ∧ r.toInt ≤ 262143) ∧ (SLr hp0 qa900 qa901 gn zi902 r) ∧ (r.toInt < 2 * (gn : Int))) G (fun u => va_pl Ls (cellOf cy K ln u)) (va_A (va_pl Ls (cellOf cy K ln hp0)) sz)) 0 0 (va_A (va_pl Ls (cellOf cy K ln hp0)) sz) := by
  refine met_of2 (y := yX3_slotOf) (L := 9) (av := [.ref qa900, .ref qa901, .int zi902]) (Qc := fun A => QBi (S := (Nat → Nat → Value)) (fun (r : Int32) (u : (Nat → Nat → Value)) => Ok K u ∧ Fr [] K hp0 u ∧ ((-1 : Int) ≤ r.toInt ∧ r.toInt ≤ 262143) ∧ (SLr hp0 qa900 qa901 gn zi902 r) ∧ (r.toInt < 2 * (gn : Int))) G (fun u => va_pl Ls (cellOf cy K ln u)) A) (plainFor_of_name (by decide)) (Nat.le_of_ble_eq_true rfl) ?_
  intro p e s m below meth c hsz hx hb hr hml hown hT hlocks hin hK A hA hE hw hS ls hl
  have hw : PW G cy K ln Ls A hp0 s.heap := hw
  have hown : s.vm.findClass "LieClock$Nodes" = some m.cls := hown
  have hl : lv_has ls 9 [(0, .ref qa900), (1, .ref qa901), (2, .int zi902)] := hl
  obtain ⟨Q, hQ⟩ : ∃ Q : State → Prop, Q = MQ below (QBi (S := (Nat → Nat → Value)) (fun (r : Int32) (u : (Nat → Nat → Value)) => Ok K u ∧ Fr [] K hp0 u ∧ ((-1 : Int) ≤ r.toInt ∧ r.toInt ≤ 262143) ∧ (SLr hp0 qa900 qa901 gn zi902 r) ∧ (r.toInt < 2 * (gn : Int))) G (fun u => va_pl Ls (cellOf cy K ln u)) A) ([.ref qa900, .ref qa901, .int zi902] : List Value).toArray s 0 0 A := ⟨_, rfl⟩
  rw [← hQ]
  have hgn := NSx.bd pdNS
  refine lv_aload_n hx hb dX3_slotOf_0 rfl (lv_at hl 1 rfl) ?_
  refine kq_i hw hS hA (va_runS (As := [.ref qa901]) (rest := []) ⟨hx, hb, hml, hown, hT⟩ (cX3_packed_0 l G cy ev K ln Ls hW _ hp0 ok0 qa901 kd901) (va_cwS 1 hT (good_S tb_1149 tb_1147 tb_1148 tb_117) rfl rfl rfl (by decide +kernel) ⟨Nat.le_of_ble_eq_true rfl, Nat.le_of_ble_eq_true rfl⟩) (PB2.preS hK hE hS hA hw) rfl rfl hl.1 rfl (lv_room (Nat.le_of_ble_eq_true rfl)) dX3_slotOf_1 ⟨Nat.le_of_ble_eq_true rfl, Nat.le_of_ble_eq_true rfl⟩) (fun zi5 hp1 H locs hq4 hw hS => ?_)
  obtain ⟨ok2, F3, xq6⟩ := hq4
  obtain rfl : hp0 = hp1 := (Fr.nil F3).symm
  have hw : PW G cy K ln Ls A hp0 H := hw
  refine lv_istore_n (lv' := [(3, .int zi5), (0, .ref qa900), (1, .ref qa901), (2, .int zi902)]) hx hb dX3_slotOf_4 rfl hl (by decide) rfl (fun ls hl => ?_)
  refine lv_aload_n hx hb dX3_slotOf_5 rfl (lv_at hl 1 rfl) ?_
  obtain ⟨qa8, eq7, kd9⟩ := rd_4005 ok0 kd900
  have ln10 := (pdNS).tab kd900 eq7
  refine p_get (ci := 3) (v := .ref qa8) (C := RX3) (T := TX3) (N := 7) hx hb hT iw_X3 hown hK hw hW kd900 (by decide) rfl rfl 5 (by decide) eq7 (hT _ tb_502) (fun _ h9 => h9) dX3_slotOf_6 ?_
  obtain ⟨zi11, ez12⟩ : ∃ z : Int32, Int32.ofNat (ln qa8) = z := ⟨_, rfl⟩
  refine p_alen (v := zi11) hx hb hK hw hW kd9 (by decide) rfl rfl ez12 dX3_slotOf_9 ?_
  have hl13 : zi11.toInt = (2 * gn : Nat) := by have h9 := ofNat_len ez12 (by rw [ln10]; omega); rw [ln10] at h9; exact h9
  have bd14 : (512 : Int) ≤ zi11.toInt ∧ zi11.toInt ≤ 262144 := (by omega)
  refine lv_iconst (v := 1) hx hb dX3_slotOf_10 (by decide) ?_
  refine lv_isub hx hb dX3_slotOf_11 (lv_topi (fun zi15 ea16 => ?_))
  have bd17 : (511 : Int) ≤ zi15.toInt ∧ zi15.toInt ≤ 262143 := b_isub ea16 bd14 bc_1 (by decide) (by decide) (by decide) (by decide)
  have qe18 : zi15.toInt = (zi11 : Int32).toInt - (1 : Int32).toInt := e_isub ea16 bd14 bc_1 (by decide) (by decide)
  have qe19 : zi15.toInt = zi11.toInt - 1 := by have ha : (1 : Int32).toInt = 1 := (by decide); rw [ha] at qe18; exact qe18
  refine lv_istore (lv' := [(4, .int zi15), (3, .int zi5), (0, .ref qa900), (1, .ref qa901), (2, .int zi902)]) hx hb dX3_slotOf_12 hl (by decide) rfl (fun ls hl => ?_)
  refine lv_iload_n hx hb dX3_slotOf_14 rfl (lv_at hl 1 rfl) ?_
  refine lv_aload_n hx hb dX3_slotOf_15 rfl (lv_at hl 3 rfl) ?_
  obtain ⟨zi21, eq20⟩ := rd_8000 ok0 kd901
  refine p_getN (ci := 7) (v := .int zi21) (C := RX7) (T := TX7) (N := 13) hx hb hT iw_X7 hown hK hw hW kd901 (by decide) rfl rfl 0 (by decide) eq20 (hK.fl nw_308) (fun _ h9 => h9) dX3_slotOf_16 ?_
  refine lv_aload_n hx hb dX3_slotOf_19 rfl (lv_at hl 3 rfl) ?_
  obtain ⟨zi23, eq22⟩ := rd_8004 ok0 kd901
  refine p_getN (ci := 7) (v := .int zi23) (C := RX7) (T := TX7) (N := 13) hx hb hT iw_X7 hown hK hw hW kd901 (by decide) rfl rfl 4 (by decide) eq22 (hK.fl nw_323) (fun _ h9 => h9) dX3_slotOf_20 ?_
  refine kq_i hw hS hA (va_runS (As := [.int zi5, .int zi21, .int zi23]) (rest := []) ⟨hx, hb, hml, hown, hT⟩ (cX3_hash_0 l G cy ev K ln Ls hW _ hp0 ok0 zi5 zi21 zi23) (va_cwS 3 hT (good_S tb_1152 tb_1150 tb_1151 tb_117) rfl rfl rfl (by decide +kernel) ⟨Nat.le_of_ble_eq_true rfl, Nat.le_of_ble_eq_true rfl⟩) (PB2.preS hK hE hS hA hw) rfl rfl hl.1 rfl (lv_room (Nat.le_of_ble_eq_true rfl)) dX3_slotOf_23 ⟨Nat.le_of_ble_eq_true rfl, Nat.le_of_ble_eq_true rfl⟩) (fun zi28 hp24 H locs hq27 hw hS => ?_)
  obtain ⟨ok25, F26, xq29⟩ := hq27
  obtain rfl : hp0 = hp24 := (Fr.nil F26).symm
  have hw : PW G cy K ln Ls A hp0 H := hw
  refine lv_istore (lv' := [(5, .int zi28), (4, .int zi15), (3, .int zi5), (0, .ref qa900), (1, .ref qa901), (2, .int zi902)]) hx hb dX3_slotOf_26 hl (by decide) rfl (fun ls hl => ?_)
  have hpk : pkf (vI (hp0 qa901 1)) (vI (hp0 qa901 2)) = zi5 := Eq.symm xq6
  have hck : vI (hp0 qa901 0) = zi21 := by rw [eq20]; rfl
  have hhd : vI (hp0 qa901 4) = zi23 := by rw [eq22]; rfl
  have hst : hshf zi5 zi21 zi23 = zi28 := Eq.symm xq29
  have hmk : Int32.ofNat (2 * gn) - 1 = zi15 := by rw [← ln10, ez12]; exact Eq.symm ea16
  refine lv_iconst (v := 0) hx hb dX3_slotOf_28 (by decide) ?_
  refine lv_istore (lv' := [(6, .int 0), (5, .int zi28), (4, .int zi15), (3, .int zi5), (0, .ref qa900), (1, .ref qa901), (2, .int zi902)]) hx hb dX3_slotOf_29 hl (by decide) rfl (fun ls hl => ?_)
  have lp449 : ∀ (n447 : Nat) (zi240 : Int32) (H : Heap) (locs : List Loc) (ls : Array Slot), 262144 - zi240.toInt < (n447 : Int) → ((0 : Int) ≤ zi240.toInt ∧ zi240.toInt ≤ 262144) → (∀ k : Int32, 0 ≤ k.toInt → k.toInt < (zi240 : Int32).toInt → ¬ SLt hp0 qa900 zi902 zi5 zi21 zi23 zi28 zi15 k) → lv_has ls 9 [(0, .ref qa900), (1, .ref qa901), (2, .int zi902), (3, .int zi5), (4, .int zi15), (5, .int zi28), (6, .int zi240)] → PW G cy K ln Ls A hp0 H → va_S A s.heap H locs → W p l e ({ frames := 1, cells := 0, slots := 0, locals := 23 } : Room) s m ([.ref qa900, .ref qa901, .int zi902] : List Value).toArray below meth c H locs 0 0 Q (F0 m 31 ls []) := by
    intro n447
    induction n447 with
    | zero =>
      intro zi240 H locs ls hm450 bd242 jx241 hl hw hS
      exact absurd hm450 (by have := bd242; omega)
    | succ n447 ih448 =>
      intro zi240 H locs ls hm450 bd242 jx241 hl hw hS
      refine lv_iload hx hb dX3_slotOf_31 (lv_at hl 6 rfl) ?_
      refine lv_aload_n hx hb dX3_slotOf_33 rfl (lv_at hl 0 rfl) ?_
      refine p_get (ci := 3) (v := .ref qa8) (C := RX3) (T := TX3) (N := 7) hx hb hT iw_X3 hown hK hw hW kd900 (by decide) rfl rfl 5 (by decide) eq7 (hT _ tb_502) (fun _ h9 => h9) dX3_slotOf_34 ?_
      obtain ⟨zi451, ez452⟩ : ∃ z : Int32, Int32.ofNat (ln qa8) = z := ⟨_, rfl⟩
      refine p_alen (v := zi451) hx hb hK hw hW kd9 (by decide) rfl rfl ez452 dX3_slotOf_37 ?_
      have hl453 : zi451.toInt = (2 * gn : Nat) := by have h9 := ofNat_len ez452 (by rw [ln10]; omega); rw [ln10] at h9; exact h9
      have bd454 : (512 : Int) ≤ zi451.toInt ∧ zi451.toInt ≤ 262144 := (by omega)
      refine lv_icmp_ge (tgt := 121) hx hb dX3_slotOf_38 (by decide) (fun cn455 => ?_) (fun cn455 => ?_)
      · skip
        have tf456 : zi451.toInt ≤ zi240.toInt := (fa_le _ _).mp cn455
        have bd457 : (512 : Int) ≤ zi240.toInt ∧ zi240.toInt ≤ 262144 := r_le_y cn455 bd454 bd242 (by decide) (by decide)
        refine lv_iconst (v := (-1)) hx hb dX3_slotOf_121 (by decide) ?_
        rw [hQ]
        exact kz_i hx hb hr hlocks hS rfl hp0 hw ⟨ok0, (Fr.rf), (b_wid2 bc_m1 (by decide) (by decide)), (by unfold SLr; rw [hpk, hck, hhd, hst, hmk]; exact Or.inr ⟨fun k h1 h2 => jx241 k h1 (by omega), rfl⟩), (by have := toi bc_m1; omega)⟩ (Nat.le_of_ble_eq_true rfl) (Nat.le_of_ble_eq_true rfl) dX3_slotOf_122
      · skip
        have tf458 : zi240.toInt < zi451.toInt := (fa_lt _ _).mp (Int32.not_le.mp cn455)
        have bd459 : (0 : Int) ≤ zi240.toInt ∧ zi240.toInt ≤ 262143 := r_lt_x (Int32.not_le.mp cn455) bd242 bd454 (by decide) (by decide)
        refine lv_iload hx hb dX3_slotOf_41 (lv_at hl 5 rfl) ?_
        refine lv_iload hx hb dX3_slotOf_43 (lv_at hl 6 rfl) ?_
        refine lv_iadd hx hb dX3_slotOf_45 (lv_topi (fun zi460 ea461 => ?_))
        refine lv_iload hx hb dX3_slotOf_46 (lv_at hl 4 rfl) ?_
        refine lv_iand hx hb dX3_slotOf_48 (lv_topi (fun zi462 ea463 => ?_))
        have an464 := b_and_r (c := zi15.toInt) (d := zi15.toInt) (lo := 0) (hi := zi15.toInt) ea463 ⟨Int.le_refl _, Int.le_refl _⟩ (by omega) (by omega) (by omega)
        have bd465 : (0 : Int) ≤ zi462.toInt ∧ zi462.toInt ≤ 262143 := b_and_r ea463 bd17 (by decide) (by decide) (by decide)
        refine lv_istore (lv' := [(7, .int zi462), (0, .ref qa900), (1, .ref qa901), (2, .int zi902), (3, .int zi5), (4, .int zi15), (5, .int zi28), (6, .int zi240)]) hx hb dX3_slotOf_49 hl (by decide) rfl (fun ls hl => ?_)
        refine lv_aload_n hx hb dX3_slotOf_51 rfl (lv_at hl 1 rfl) ?_
        refine p_get (ci := 3) (v := .ref qa8) (C := RX3) (T := TX3) (N := 7) hx hb hT iw_X3 hown hK hw hW kd900 (by decide) rfl rfl 5 (by decide) eq7 (hT _ tb_502) (fun _ h9 => h9) dX3_slotOf_52 ?_
        refine lv_iload hx hb dX3_slotOf_55 (lv_at hl 0 rfl) ?_
        obtain ⟨zi467, eq466, bd468⟩ := rd_33000 ok0 kd9 ((zi462 : Int32).toNatClampNeg)
        have nz469 := (pdNS).elt kd900 eq7 (vp_bv (by omega) (by omega)) eq466
        refine p_iald (v := zi467) hx hb hK hw hW kd9 (by decide) rfl ln10 (vp_bv (by omega) (by omega)) eq466 dX3_slotOf_57 ?_
        refine lv_iconst (v := 1) hx hb dX3_slotOf_58 (by decide) ?_
        refine lv_isub hx hb dX3_slotOf_59 (lv_topi (fun zi470 ea471 => ?_))
        have bd472 : (-1 : Int) ≤ zi470.toInt ∧ zi470.toInt ≤ 131071 := b_isub ea471 bd468 bc_1 (by decide) (by decide) (by decide) (by decide)
        have qe473 : zi470.toInt = (zi467 : Int32).toInt - (1 : Int32).toInt := e_isub ea471 bd468 bc_1 (by decide) (by decide)
        have qe474 : zi470.toInt = zi467.toInt - 1 := by have ha : (1 : Int32).toInt = 1 := (by decide); rw [ha] at qe473; exact qe473
        refine lv_istore (lv' := [(8, .int zi470), (7, .int zi462), (0, .ref qa900), (1, .ref qa901), (2, .int zi902), (3, .int zi5), (4, .int zi15), (5, .int zi28), (6, .int zi240)]) hx hb dX3_slotOf_60 hl (by decide) rfl (fun ls hl => ?_)
        have ht475 : mA hp0 qa900 5 ((zi28 + zi240) &&& zi15).toNatClampNeg = zi467.toInt := by rw [← ea461, ← ea463]; exact mA_of eq7 eq466
        refine lv_iload hx hb dX3_slotOf_62 (lv_at hl 0 rfl) ?_
        refine lv_if_lt (tgt := 112) hx hb dX3_slotOf_64 (by decide) (fun cn476 => ?_) (fun cn476 => ?_)
        · skip
          have bd477 : (-1 : Int) ≤ zi470.toInt ∧ zi470.toInt ≤ -1 := r_lt_x cn476 bd472 bc_0 (by decide) (by decide)
          have bd478 : (0 : Int) ≤ zi467.toInt ∧ zi467.toInt ≤ 0 := (by have := qe474; have := bd477; have := bd468; have := bc_1; omega)
          refine lv_iload hx hb dX3_slotOf_112 (lv_at hl 1 rfl) ?_
          rw [hQ]
          exact kz_i hx hb hr hlocks hS rfl hp0 hw ⟨ok0, (Fr.rf), (b_wid2 bd465 (by decide) (by decide)), (by unfold SLr; rw [hpk, hck, hhd, hst, hmk]; exact Or.inl ⟨zi240, by omega, by omega, jx241, by unfold SLt; rw [ht475]; exact Or.inl (by omega), by rw [← ea461]; exact ea463⟩), (by omega)⟩ (Nat.le_of_ble_eq_true rfl) (Nat.le_of_ble_eq_true rfl) dX3_slotOf_114
        · skip
          have bd479 : (0 : Int) ≤ zi470.toInt ∧ zi470.toInt ≤ 131071 := r_le_y (Int32.not_lt.mp cn476) bc_0 bd472 (by decide) (by decide)
          have bd480 : (1 : Int) ≤ zi467.toInt ∧ zi467.toInt ≤ 131072 := (by have := qe474; have := bd479; have := bd468; have := bc_1; omega)
          refine lv_iload hx hb dX3_slotOf_67 (lv_at hl 0 rfl) ?_
          refine lv_iload_n hx hb dX3_slotOf_69 rfl (lv_at hl 4 rfl) ?_
          refine lv_icmp_lt (tgt := 115) hx hb dX3_slotOf_70 (by decide) (fun cn481 => ?_) (fun cn481 => ?_)
          · skip
            have tf482 : zi470.toInt < zi902.toInt := (fa_lt _ _).mp cn481
            have bd483 : (1 : Int) ≤ zi902.toInt ∧ zi902.toInt ≤ 2147483647 := r_lt_y cn481 bd479 (b_all zi902) (by decide) (by decide)
            obtain ⟨qa486, eq485, kd487⟩ := rd_4000 ok0 kd900
            have ln488 := (pdNS).ref kd900 (by decide) eq485
            have ns484 : ¬ SLt hp0 qa900 zi902 zi5 zi21 zi23 zi28 zi15 zi240 := by
              unfold SLt
              rw [ht475]
              intro q
              rcases q with q | ⟨q1, q2, q3, q4⟩
              · omega
              · omega
            obtain ⟨zi489, ea490⟩ : ∃ z : Int32, z = zi240 + 1 := ⟨_, rfl⟩
            have bd491 : (1 : Int) ≤ zi489.toInt ∧ zi489.toInt ≤ 262144 := b_iadd ea490 bd459 bc_1 (by decide) (by decide) (by decide) (by decide)
            have qe492 : zi489.toInt = (zi240 : Int32).toInt + (1 : Int32).toInt := e_iadd ea490 bd459 bc_1 (by decide) (by decide)
            have qe493 : zi489.toInt = zi240.toInt + 1 := by have ha : (1 : Int32).toInt = 1 := (by decide); rw [ha] at qe492; exact qe492
            refine lv_iinc (v := zi489) (lv' := [(6, .int zi489), (8, .int zi470), (7, .int zi462), (0, .ref qa900), (1, .ref qa901), (2, .int zi902), (3, .int zi5), (4, .int zi15), (5, .int zi28)]) hx hb dX3_slotOf_115 hl (k := 8) rfl ea490.symm (by decide) rfl (fun ls hl => ?_)
            have sj494 := SL_next jx241 ns484 qe493
            refine lv_goto (tgt := 31) hx hb dX3_slotOf_118 (by decide) ?_
            exact ih448 zi489 _ _ ls (by have := hm450; have := qe493; omega) (b_wid2 bd491 (by decide) (by decide)) sj494 (lv_sub hl [3, 4, 5, 6, 7, 8, 0] rfl) hw hS
          · skip
            have tf495 : zi902.toInt ≤ zi470.toInt := (fa_le _ _).mp (Int32.not_lt.mp cn481)
            have bd496 : (-2147483648 : Int) ≤ zi902.toInt ∧ zi902.toInt ≤ 131071 := r_le_x (Int32.not_lt.mp cn481) (b_all zi902) bd479 (by decide) (by decide)
            refine lv_aload_n hx hb dX3_slotOf_73 rfl (lv_at hl 2 rfl) ?_
            obtain ⟨qa498, eq497, kd499⟩ := rd_4000 ok0 kd900
            have ln500 := (pdNS).ref kd900 (by decide) eq497
            refine p_get (ci := 3) (v := .ref qa498) (C := RX3) (T := TX3) (N := 7) hx hb hT iw_X3 hown hK hw hW kd900 (by decide) rfl rfl 0 (by decide) eq497 (hT _ tb_492) (fun _ h9 => h9) dX3_slotOf_74 ?_
            refine lv_iload hx hb dX3_slotOf_77 (lv_at hl 0 rfl) ?_
            obtain ⟨zi502, eq501⟩ := rd_28000 ok0 kd499 ((zi470 : Int32).toNatClampNeg)
            refine p_iald (v := zi502) hx hb hK hw hW kd499 (by decide) rfl ln500 (vp_bv (by omega) (by omega)) eq501 dX3_slotOf_79 ?_
            refine lv_iload_n hx hb dX3_slotOf_80 rfl (lv_at hl 5 rfl) ?_
            refine lv_icmp_ne (tgt := 115) hx hb dX3_slotOf_81 (by decide) (fun cn503 => ?_) (fun cn503 => ?_)
            · skip
              have tf504 : (zi502 : Int32).toInt ≠ (zi5 : Int32).toInt := fun e => cn503 (Int32.toInt_inj.mp e)
              obtain ⟨qa507, eq506, kd508⟩ := rd_4001 ok0 kd900
              have ln509 := (pdNS).ref kd900 (by decide) eq506
              have ns505 : ¬ SLt hp0 qa900 zi902 zi5 zi21 zi23 zi28 zi15 zi240 := by
                unfold SLt
                rw [ht475]
                intro q
                rcases q with q | ⟨q1, q2, q3, q4⟩
                · omega
                · rw [show (zi467.toInt - 1).toNat = (zi470 : Int32).toNatClampNeg from by have := clampN (x := zi470) (by omega); omega, mA_of eq497 eq501] at q2
                  omega
              obtain ⟨zi510, ea511⟩ : ∃ z : Int32, z = zi240 + 1 := ⟨_, rfl⟩
              have bd512 : (1 : Int) ≤ zi510.toInt ∧ zi510.toInt ≤ 262144 := b_iadd ea511 bd459 bc_1 (by decide) (by decide) (by decide) (by decide)
              have qe513 : zi510.toInt = (zi240 : Int32).toInt + (1 : Int32).toInt := e_iadd ea511 bd459 bc_1 (by decide) (by decide)
              have qe514 : zi510.toInt = zi240.toInt + 1 := by have ha : (1 : Int32).toInt = 1 := (by decide); rw [ha] at qe513; exact qe513
              refine lv_iinc (v := zi510) (lv' := [(6, .int zi510), (8, .int zi470), (7, .int zi462), (0, .ref qa900), (1, .ref qa901), (2, .int zi902), (3, .int zi5), (4, .int zi15), (5, .int zi28)]) hx hb dX3_slotOf_115 hl (k := 8) rfl ea511.symm (by decide) rfl (fun ls hl => ?_)
              have sj515 := SL_next jx241 ns505 qe514
              refine lv_goto (tgt := 31) hx hb dX3_slotOf_118 (by decide) ?_
              exact ih448 zi510 _ _ ls (by have := hm450; have := qe514; omega) (b_wid2 bd512 (by decide) (by decide)) sj515 (lv_sub hl [3, 4, 5, 6, 7, 8, 0] rfl) hw hS
            · skip
              have tf516 : zi502.toInt = zi5.toInt := congrArg Int32.toInt cn503
              refine lv_aload_n hx hb dX3_slotOf_84 rfl (lv_at hl 2 rfl) ?_
              obtain ⟨qa518, eq517, kd519⟩ := rd_4001 ok0 kd900
              have ln520 := (pdNS).ref kd900 (by decide) eq517
              refine p_get (ci := 3) (v := .ref qa518) (C := RX3) (T := TX3) (N := 7) hx hb hT iw_X3 hown hK hw hW kd900 (by decide) rfl rfl 1 (by decide) eq517 (hT _ tb_495) (fun _ h9 => h9) dX3_slotOf_85 ?_
              refine lv_iload hx hb dX3_slotOf_88 (lv_at hl 0 rfl) ?_
              obtain ⟨zi522, eq521⟩ := rd_29000 ok0 kd519 ((zi470 : Int32).toNatClampNeg)
              refine p_iald (v := zi522) hx hb hK hw hW kd519 (by decide) rfl ln520 (vp_bv (by omega) (by omega)) eq521 dX3_slotOf_90 ?_
              refine lv_aload_n hx hb dX3_slotOf_91 rfl (lv_at hl 3 rfl) ?_
              refine p_getN (ci := 7) (v := .int zi21) (C := RX7) (T := TX7) (N := 13) hx hb hT iw_X7 hown hK hw hW kd901 (by decide) rfl rfl 0 (by decide) eq20 (hK.fl nw_308) (fun _ h9 => h9) dX3_slotOf_92 ?_
              refine lv_icmp_ne (tgt := 115) hx hb dX3_slotOf_95 (by decide) (fun cn523 => ?_) (fun cn523 => ?_)
              · skip
                have tf524 : (zi522 : Int32).toInt ≠ (zi21 : Int32).toInt := fun e => cn523 (Int32.toInt_inj.mp e)
                obtain ⟨qa527, eq526, kd528⟩ := rd_4002 ok0 kd900
                have ln529 := (pdNS).ref kd900 (by decide) eq526
                have ns525 : ¬ SLt hp0 qa900 zi902 zi5 zi21 zi23 zi28 zi15 zi240 := by
                  unfold SLt
                  rw [ht475]
                  intro q
                  rcases q with q | ⟨q1, q2, q3, q4⟩
                  · omega
                  · rw [show (zi467.toInt - 1).toNat = (zi470 : Int32).toNatClampNeg from by have := clampN (x := zi470) (by omega); omega, mA_of eq497 eq501] at q2
                    rw [show (zi467.toInt - 1).toNat = (zi470 : Int32).toNatClampNeg from by have := clampN (x := zi470) (by omega); omega, mA_of eq517 eq521] at q3
                    omega
                obtain ⟨zi530, ea531⟩ : ∃ z : Int32, z = zi240 + 1 := ⟨_, rfl⟩
                have bd532 : (1 : Int) ≤ zi530.toInt ∧ zi530.toInt ≤ 262144 := b_iadd ea531 bd459 bc_1 (by decide) (by decide) (by decide) (by decide)
                have qe533 : zi530.toInt = (zi240 : Int32).toInt + (1 : Int32).toInt := e_iadd ea531 bd459 bc_1 (by decide) (by decide)
                have qe534 : zi530.toInt = zi240.toInt + 1 := by have ha : (1 : Int32).toInt = 1 := (by decide); rw [ha] at qe533; exact qe533
                refine lv_iinc (v := zi530) (lv' := [(6, .int zi530), (8, .int zi470), (7, .int zi462), (0, .ref qa900), (1, .ref qa901), (2, .int zi902), (3, .int zi5), (4, .int zi15), (5, .int zi28)]) hx hb dX3_slotOf_115 hl (k := 8) rfl ea531.symm (by decide) rfl (fun ls hl => ?_)
                have sj535 := SL_next jx241 ns525 qe534
                refine lv_goto (tgt := 31) hx hb dX3_slotOf_118 (by decide) ?_
                exact ih448 zi530 _ _ ls (by have := hm450; have := qe534; omega) (b_wid2 bd532 (by decide) (by decide)) sj535 (lv_sub hl [3, 4, 5, 6, 7, 8, 0] rfl) hw hS
              · skip
                have tf536 : zi522.toInt = zi21.toInt := congrArg Int32.toInt cn523
                refine lv_aload_n hx hb dX3_slotOf_98 rfl (lv_at hl 2 rfl) ?_
                obtain ⟨qa538, eq537, kd539⟩ := rd_4002 ok0 kd900
                have ln540 := (pdNS).ref kd900 (by decide) eq537
                refine p_get (ci := 3) (v := .ref qa538) (C := RX3) (T := TX3) (N := 7) hx hb hT iw_X3 hown hK hw hW kd900 (by decide) rfl rfl 2 (by decide) eq537 (hT _ tb_497) (fun _ h9 => h9) dX3_slotOf_99 ?_
                refine lv_iload hx hb dX3_slotOf_102 (lv_at hl 0 rfl) ?_
                obtain ⟨zi542, eq541⟩ := rd_30000 ok0 kd539 ((zi470 : Int32).toNatClampNeg)
                refine p_iald (v := zi542) hx hb hK hw hW kd539 (by decide) rfl ln540 (vp_bv (by omega) (by omega)) eq541 dX3_slotOf_104 ?_
                refine lv_aload_n hx hb dX3_slotOf_105 rfl (lv_at hl 3 rfl) ?_
                refine p_getN (ci := 7) (v := .int zi23) (C := RX7) (T := TX7) (N := 13) hx hb hT iw_X7 hown hK hw hW kd901 (by decide) rfl rfl 4 (by decide) eq22 (hK.fl nw_323) (fun _ h9 => h9) dX3_slotOf_106 ?_
                refine lv_icmp_ne (tgt := 115) hx hb dX3_slotOf_109 (by decide) (fun cn543 => ?_) (fun cn543 => ?_)
                · skip
                  have tf544 : (zi542 : Int32).toInt ≠ (zi23 : Int32).toInt := fun e => cn543 (Int32.toInt_inj.mp e)
                  have ns545 : ¬ SLt hp0 qa900 zi902 zi5 zi21 zi23 zi28 zi15 zi240 := by
                    unfold SLt
                    rw [ht475]
                    intro q
                    rcases q with q | ⟨q1, q2, q3, q4⟩
                    · omega
                    · rw [show (zi467.toInt - 1).toNat = (zi470 : Int32).toNatClampNeg from by have := clampN (x := zi470) (by omega); omega, mA_of eq497 eq501] at q2
                      rw [show (zi467.toInt - 1).toNat = (zi470 : Int32).toNatClampNeg from by have := clampN (x := zi470) (by omega); omega, mA_of eq517 eq521] at q3
                      rw [show (zi467.toInt - 1).toNat = (zi470 : Int32).toNatClampNeg from by have := clampN (x := zi470) (by omega); omega, mA_of eq537 eq541] at q4
                      omega
                  obtain ⟨zi546, ea547⟩ : ∃ z : Int32, z = zi240 + 1 := ⟨_, rfl⟩
                  have bd548 : (1 : Int) ≤ zi546.toInt ∧ zi546.toInt ≤ 262144 := b_iadd ea547 bd459 bc_1 (by decide) (by decide) (by decide) (by decide)
                  have qe549 : zi546.toInt = (zi240 : Int32).toInt + (1 : Int32).toInt := e_iadd ea547 bd459 bc_1 (by decide) (by decide)
                  have qe550 : zi546.toInt = zi240.toInt + 1 := by have ha : (1 : Int32).toInt = 1 := (by decide); rw [ha] at qe549; exact qe549
                  refine lv_iinc (v := zi546) (lv' := [(6, .int zi546), (8, .int zi470), (7, .int zi462), (0, .ref qa900), (1, .ref qa901), (2, .int zi902), (3, .int zi5), (4, .int zi15), (5, .int zi28)]) hx hb dX3_slotOf_115 hl (k := 8) rfl ea547.symm (by decide) rfl (fun ls hl => ?_)
                  have sj551 := SL_next jx241 ns545 qe550
                  refine lv_goto (tgt := 31) hx hb dX3_slotOf_118 (by decide) ?_
                  exact ih448 zi546 _ _ ls (by have := hm450; have := qe550; omega) (b_wid2 bd548 (by decide) (by decide)) sj551 (lv_sub hl [3, 4, 5, 6, 7, 8, 0] rfl) hw hS
                · skip
                  have tf552 : zi542.toInt = zi23.toInt := congrArg Int32.toInt cn543
                  refine lv_iload hx hb dX3_slotOf_112 (lv_at hl 1 rfl) ?_
                  rw [hQ]
                  exact kz_i hx hb hr hlocks hS rfl hp0 hw ⟨ok0, (Fr.rf), (b_wid2 bd465 (by decide) (by decide)), (by unfold SLr; rw [hpk, hck, hhd, hst, hmk]; exact Or.inl ⟨zi240, by omega, by omega, jx241, by unfold SLt; rw [ht475]; exact Or.inr ⟨by omega, by rw [show (zi467.toInt - 1).toNat = (zi470 : Int32).toNatClampNeg from by have := clampN (x := zi470) (by omega); omega, mA_of eq497 eq501]; omega, by rw [show (zi467.toInt - 1).toNat = (zi470 : Int32).toNatClampNeg from by have := clampN (x := zi470) (by omega); omega, mA_of eq517 eq521]; omega, by rw [show (zi467.toInt - 1).toNat = (zi470 : Int32).toNatClampNeg from by have := clampN (x := zi470) (by omega); omega, mA_of eq537 eq541]; omega⟩, by rw [← ea461]; exact ea463⟩), (by omega)⟩ (Nat.le_of_ble_eq_true rfl) (Nat.le_of_ble_eq_true rfl) dX3_slotOf_114
  exact lp449 _ 0 _ _ ls (lp_in _) (b_wid2 bc_0 (by decide) (by decide)) (fun k h1 h2 => absurd h2 (by have := toi bc_0; omega)) (lv_sub hl [4, 5, 6, 3, 2, 1, 0] rfl) hw hS

set_option maxRecDepth 100000 in
set_option maxHeartbeats 4000000 in
theorem cX3_freeSlot_0 (l : Launch) (G : va_G) (cy : Nat → ClassId) (ev : Ew) (K ln : Nat → Nat) (Ls : List Nat) (hW : SW K ln Ls) (sz : Nat) (hp0 : Nat → Nat → Value) (ok0 : Ok K hp0) (qa900 : Nat) (zi901 : Int32) (gn : Nat) (kd900 : K qa900 = 4) (pdNS : NSx K ln hp0 gn) : Met l yX3_freeSlot (WS yX3_freeSlot cX3_freeSlot 4 (some .int)) { frames := 0, cells := 0, slots := 0, locals := 0 } (PB2 [.ref qa900, .int zi901] sz G cy ev (va_pl Ls (cellOf cy K ln hp0))) (QBi (S := (Nat → Nat → Value)) (fun (r : Int32) (u : (Nat → Nat → Value)) => Ok K u ∧ Fr [] K hp0 u ∧ ((0 : Int) ≤ r.toInt ∧ r.toInt ≤ 262143) ∧ (r.toInt < 2 * (gn : Int))) G (fun u => va_pl Ls (cellOf cy K ln u)) (va_A (va_pl Ls (cellOf cy K ln hp0)) sz)) 0 0 (va_A (va_pl Ls (cellOf cy K ln hp0)) sz) := by
  refine met_of2 (y := yX3_freeSlot) (L := 4) (av := [.ref qa900, .int zi901]) (Qc := fun A => QBi (S := (Nat → Nat → Value)) (fun (r : Int32) (u : (Nat → Nat → Value)) => Ok K u ∧ Fr [] K hp0 u ∧ ((0 : Int) ≤ r.toInt ∧ r.toInt ≤ 262143) ∧ (r.toInt < 2 * (gn : Int))) G (fun u => va_pl Ls (cellOf cy K ln u)) A) (plainFor_of_name (by decide)) (Nat.le_of_ble_eq_true rfl) ?_
  intro p e s m below meth c hsz hx hb hr hml hown hT hlocks hin hK A hA hE hw hS ls hl
  have hw : PW G cy K ln Ls A hp0 s.heap := hw
  have hown : s.vm.findClass "LieClock$Nodes" = some m.cls := hown
  have hl : lv_has ls 4 [(0, .ref qa900), (1, .int zi901)] := hl
  obtain ⟨Q, hQ⟩ : ∃ Q : State → Prop, Q = MQ below (QBi (S := (Nat → Nat → Value)) (fun (r : Int32) (u : (Nat → Nat → Value)) => Ok K u ∧ Fr [] K hp0 u ∧ ((0 : Int) ≤ r.toInt ∧ r.toInt ≤ 262143) ∧ (r.toInt < 2 * (gn : Int))) G (fun u => va_pl Ls (cellOf cy K ln u)) A) ([.ref qa900, .int zi901] : List Value).toArray s 0 0 A := ⟨_, rfl⟩
  rw [← hQ]
  have hgn := NSx.bd pdNS
  refine lv_aload_n hx hb dX3_freeSlot_0 rfl (lv_at hl 0 rfl) ?_
  obtain ⟨qa2, eq1, kd3⟩ := rd_4005 ok0 kd900
  have ln4 := (pdNS).tab kd900 eq1
  refine p_get (ci := 3) (v := .ref qa2) (C := RX3) (T := TX3) (N := 7) hx hb hT iw_X3 hown hK hw hW kd900 (by decide) rfl rfl 5 (by decide) eq1 (hT _ tb_502) (fun _ h9 => h9) dX3_freeSlot_1 ?_
  obtain ⟨zi5, ez6⟩ : ∃ z : Int32, Int32.ofNat (ln qa2) = z := ⟨_, rfl⟩
  refine p_alen (v := zi5) hx hb hK hw hW kd3 (by decide) rfl rfl ez6 dX3_freeSlot_4 ?_
  have hl7 : zi5.toInt = (2 * gn : Nat) := by have h9 := ofNat_len ez6 (by rw [ln4]; omega); rw [ln4] at h9; exact h9
  have bd8 : (512 : Int) ≤ zi5.toInt ∧ zi5.toInt ≤ 262144 := (by omega)
  refine lv_iconst (v := 1) hx hb dX3_freeSlot_5 (by decide) ?_
  refine lv_isub hx hb dX3_freeSlot_6 (lv_topi (fun zi9 ea10 => ?_))
  have bd11 : (511 : Int) ≤ zi9.toInt ∧ zi9.toInt ≤ 262143 := b_isub ea10 bd8 bc_1 (by decide) (by decide) (by decide) (by decide)
  have qe12 : zi9.toInt = (zi5 : Int32).toInt - (1 : Int32).toInt := e_isub ea10 bd8 bc_1 (by decide) (by decide)
  have qe13 : zi9.toInt = zi5.toInt - 1 := by have ha : (1 : Int32).toInt = 1 := (by decide); rw [ha] at qe12; exact qe12
  refine lv_istore_n (lv' := [(2, .int zi9), (0, .ref qa900), (1, .int zi901)]) hx hb dX3_freeSlot_7 rfl hl (by decide) rfl (fun ls hl => ?_)
  refine lv_iconst (v := 0) hx hb dX3_freeSlot_8 (by decide) ?_
  refine lv_istore_n (lv' := [(3, .int 0), (2, .int zi9), (0, .ref qa900), (1, .int zi901)]) hx hb dX3_freeSlot_9 rfl hl (by decide) rfl (fun ls hl => ?_)
  have lp485 : ∀ (n483 : Nat) (zi413 : Int32) (H : Heap) (locs : List Loc) (ls : Array Slot), 262144 - zi413.toInt < (n483 : Int) → ((0 : Int) ≤ zi413.toInt ∧ zi413.toInt ≤ 262144) → lv_has ls 4 [(0, .ref qa900), (1, .int zi901), (2, .int zi9), (3, .int zi413)] → PW G cy K ln Ls A hp0 H → va_S A s.heap H locs → W p l e ({ frames := 0, cells := 0, slots := 0, locals := 0 } : Room) s m ([.ref qa900, .int zi901] : List Value).toArray below meth c H locs 0 0 Q (F0 m 10 ls []) := by
    intro n483
    induction n483 with
    | zero =>
      intro zi413 H locs ls hm486 bd414 hl hw hS
      exact absurd hm486 (by have := bd414; omega)
    | succ n483 ih484 =>
      intro zi413 H locs ls hm486 bd414 hl hw hS
      refine lv_iload_n hx hb dX3_freeSlot_10 rfl (lv_at hl 3 rfl) ?_
      refine lv_aload_n hx hb dX3_freeSlot_11 rfl (lv_at hl 0 rfl) ?_
      refine p_get (ci := 3) (v := .ref qa2) (C := RX3) (T := TX3) (N := 7) hx hb hT iw_X3 hown hK hw hW kd900 (by decide) rfl rfl 5 (by decide) eq1 (hT _ tb_502) (fun _ h9 => h9) dX3_freeSlot_12 ?_
      obtain ⟨zi487, ez488⟩ : ∃ z : Int32, Int32.ofNat (ln qa2) = z := ⟨_, rfl⟩
      refine p_alen (v := zi487) hx hb hK hw hW kd3 (by decide) rfl rfl ez488 dX3_freeSlot_15 ?_
      have hl489 : zi487.toInt = (2 * gn : Nat) := by have h9 := ofNat_len ez488 (by rw [ln4]; omega); rw [ln4] at h9; exact h9
      have bd490 : (512 : Int) ≤ zi487.toInt ∧ zi487.toInt ≤ 262144 := (by omega)
      refine lv_icmp_ge (tgt := 44) hx hb dX3_freeSlot_16 (by decide) (fun cn491 => ?_) (fun cn491 => ?_)
      · skip
        have tf492 : zi487.toInt ≤ zi413.toInt := (fa_le _ _).mp cn491
        have bd493 : (512 : Int) ≤ zi413.toInt ∧ zi413.toInt ≤ 262144 := r_le_y cn491 bd490 bd414 (by decide) (by decide)
        refine lv_iconst (v := 0) hx hb dX3_freeSlot_44 (by decide) ?_
        rw [hQ]
        exact kz_i hx hb hr hlocks hS rfl hp0 hw ⟨ok0, (Fr.rf), (b_wid2 bc_0 (by decide) (by decide)), (by have := toi bc_0; omega)⟩ (Nat.le_of_ble_eq_true rfl) (Nat.le_of_ble_eq_true rfl) dX3_freeSlot_45
      · skip
        have tf494 : zi413.toInt < zi487.toInt := (fa_lt _ _).mp (Int32.not_le.mp cn491)
        have bd495 : (0 : Int) ≤ zi413.toInt ∧ zi413.toInt ≤ 262143 := r_lt_x (Int32.not_le.mp cn491) bd414 bd490 (by decide) (by decide)
        refine lv_aload_n hx hb dX3_freeSlot_19 rfl (lv_at hl 0 rfl) ?_
        refine p_get (ci := 3) (v := .ref qa2) (C := RX3) (T := TX3) (N := 7) hx hb hT iw_X3 hown hK hw hW kd900 (by decide) rfl rfl 5 (by decide) eq1 (hT _ tb_502) (fun _ h9 => h9) dX3_freeSlot_20 ?_
        refine lv_iload_n hx hb dX3_freeSlot_23 rfl (lv_at hl 1 rfl) ?_
        refine lv_iload_n hx hb dX3_freeSlot_24 rfl (lv_at hl 3 rfl) ?_
        refine lv_iadd hx hb dX3_freeSlot_25 (lv_topi (fun zi496 ea497 => ?_))
        refine lv_iload_n hx hb dX3_freeSlot_26 rfl (lv_at hl 2 rfl) ?_
        refine lv_iand hx hb dX3_freeSlot_27 (lv_topi (fun zi498 ea499 => ?_))
        have an500 := b_and_r (c := zi9.toInt) (d := zi9.toInt) (lo := 0) (hi := zi9.toInt) ea499 ⟨Int.le_refl _, Int.le_refl _⟩ (by omega) (by omega) (by omega)
        have bd501 : (0 : Int) ≤ zi498.toInt ∧ zi498.toInt ≤ 262143 := b_and_r ea499 bd11 (by decide) (by decide) (by decide)
        obtain ⟨zi503, eq502, bd504⟩ := rd_33000 ok0 kd3 ((zi498 : Int32).toNatClampNeg)
        have nz505 := (pdNS).elt kd900 eq1 (vp_bv (by omega) (by omega)) eq502
        refine p_iald (v := zi503) hx hb hK hw hW kd3 (by decide) rfl ln4 (vp_bv (by omega) (by omega)) eq502 dX3_freeSlot_28 ?_
        refine lv_if_ne (tgt := 38) hx hb dX3_freeSlot_29 (by decide) (fun cn506 => ?_) (fun cn506 => ?_)
        · skip
          have tf507 : (zi503 : Int32).toInt ≠ (0 : Int32).toInt := fun e => cn506 (Int32.toInt_inj.mp e)
          have := toi bc_0
          have bd508 : (1 : Int) ≤ zi503.toInt ∧ zi503.toInt ≤ 131072 := r_ne_lo cn506 bd504 (toi bc_0) (by decide) (by decide)
          obtain ⟨zi509, ea510⟩ : ∃ z : Int32, z = zi413 + 1 := ⟨_, rfl⟩
          have bd511 : (1 : Int) ≤ zi509.toInt ∧ zi509.toInt ≤ 262144 := b_iadd ea510 bd495 bc_1 (by decide) (by decide) (by decide) (by decide)
          have qe512 : zi509.toInt = (zi413 : Int32).toInt + (1 : Int32).toInt := e_iadd ea510 bd495 bc_1 (by decide) (by decide)
          have qe513 : zi509.toInt = zi413.toInt + 1 := by have ha : (1 : Int32).toInt = 1 := (by decide); rw [ha] at qe512; exact qe512
          refine lv_iinc (v := zi509) (lv' := [(3, .int zi509), (0, .ref qa900), (1, .int zi901), (2, .int zi9)]) hx hb dX3_freeSlot_38 hl (k := 3) rfl ea510.symm (by decide) rfl (fun ls hl => ?_)
          refine lv_goto (tgt := 10) hx hb dX3_freeSlot_41 (by decide) ?_
          exact ih484 zi509 _ _ ls (by have := hm486; have := qe513; omega) (b_wid2 bd511 (by decide) (by decide)) (lv_sub hl [1, 2, 3, 0] rfl) hw hS
        · skip
          have bd514 : (0 : Int) ≤ zi503.toInt ∧ zi503.toInt ≤ 0 := r_eq_x cn506 bd504 bc_0 (by decide) (by decide)
          refine lv_iload_n hx hb dX3_freeSlot_32 rfl (lv_at hl 1 rfl) ?_
          refine lv_iload_n hx hb dX3_freeSlot_33 rfl (lv_at hl 3 rfl) ?_
          refine lv_iadd hx hb dX3_freeSlot_34 (lv_topi (fun zi515 ea516 => ?_))
          refine lv_iload_n hx hb dX3_freeSlot_35 rfl (lv_at hl 2 rfl) ?_
          refine lv_iand hx hb dX3_freeSlot_36 (lv_topi (fun zi517 ea518 => ?_))
          have an519 := b_and_r (c := zi9.toInt) (d := zi9.toInt) (lo := 0) (hi := zi9.toInt) ea518 ⟨Int.le_refl _, Int.le_refl _⟩ (by omega) (by omega) (by omega)
          have bd520 : (0 : Int) ≤ zi517.toInt ∧ zi517.toInt ≤ 262143 := b_and_r ea518 bd11 (by decide) (by decide) (by decide)
          rw [hQ]
          exact kz_i hx hb hr hlocks hS rfl hp0 hw ⟨ok0, (Fr.rf), (b_wid2 bd520 (by decide) (by decide)), (by omega)⟩ (Nat.le_of_ble_eq_true rfl) (Nat.le_of_ble_eq_true rfl) dX3_freeSlot_37
  exact lp485 _ 0 _ _ ls (lp_in _) (b_wid2 bc_0 (by decide) (by decide)) (lv_sub hl [2, 3, 1, 0] rfl) hw hS

set_option maxRecDepth 100000 in
set_option maxHeartbeats 4000000 in
theorem cX3_grow_vGM_0 (l : Launch) (G : va_G) (cy : Nat → ClassId) (ev : Ew) (K ln : Nat → Nat) (Ls : List Nat) (hW : SW K ln Ls) (sz : Nat) (hp0 : Nat → Nat → Value) (ok0 : Ok K hp0) (qa900 : Nat) (gn : Nat) (kd900 : K qa900 = 4) (pdNS : NSx K ln hp0 gn) (xp0 : 131072 < 2 * gn) : Met l yX3_grow (WS yX3_grow cX3_grow 3 none) { frames := 0, cells := 0, slots := 0, locals := 0 } (PB2 [.ref qa900] sz G cy ev (va_pl Ls (cellOf cy K ln hp0))) (QBv (S := (Nat → Nat → Value)) (fun u : (Nat → Nat → Value) => Ok K u ∧ Fr [] K hp0 u) G (fun u => va_pl Ls (cellOf cy K ln u)) (va_A (va_pl Ls (cellOf cy K ln hp0)) sz)) 0 0 (va_A (va_pl Ls (cellOf cy K ln hp0)) sz) := by
  refine met_of2 (y := yX3_grow) (L := 3) (av := [.ref qa900]) (Qc := fun A => QBv (S := (Nat → Nat → Value)) (fun u : (Nat → Nat → Value) => Ok K u ∧ Fr [] K hp0 u) G (fun u => va_pl Ls (cellOf cy K ln u)) A) (plainFor_of_name (by decide)) (Nat.le_of_ble_eq_true rfl) ?_
  intro p e s m below meth c hsz hx hb hr hml hown hT hlocks hin hK A hA hE hw hS ls hl
  have hw : PW G cy K ln Ls A hp0 s.heap := hw
  have hown : s.vm.findClass "LieClock$Nodes" = some m.cls := hown
  have hl : lv_has ls 3 [(0, .ref qa900)] := hl
  obtain ⟨Q, hQ⟩ : ∃ Q : State → Prop, Q = MQ below (QBv (S := (Nat → Nat → Value)) (fun u : (Nat → Nat → Value) => Ok K u ∧ Fr [] K hp0 u) G (fun u => va_pl Ls (cellOf cy K ln u)) A) ([.ref qa900] : List Value).toArray s 0 0 A := ⟨_, rfl⟩
  rw [← hQ]
  have hgn := NSx.bd pdNS
  refine lv_iconst (v := 2) hx hb dX3_grow_0 (by decide) ?_
  refine lv_aload_n hx hb dX3_grow_1 rfl (lv_at hl 0 rfl) ?_
  obtain ⟨qa2, eq1, kd3⟩ := rd_4000 ok0 kd900
  have ln4 := (pdNS).ref kd900 (by decide) eq1
  refine p_get (ci := 3) (v := .ref qa2) (C := RX3) (T := TX3) (N := 7) hx hb hT iw_X3 hown hK hw hW kd900 (by decide) rfl rfl 0 (by decide) eq1 (hT _ tb_492) (fun _ h9 => h9) dX3_grow_2 ?_
  obtain ⟨zi5, ez6⟩ : ∃ z : Int32, Int32.ofNat (ln qa2) = z := ⟨_, rfl⟩
  refine p_alen (v := zi5) hx hb hK hw hW kd3 (by decide) rfl rfl ez6 dX3_grow_5 ?_
  have hl7 : zi5.toInt = (gn : Nat) := by have h9 := ofNat_len ez6 (by rw [ln4]; omega); rw [ln4] at h9; exact h9
  have bd8 : (256 : Int) ≤ zi5.toInt ∧ zi5.toInt ≤ 131072 := (by omega)
  refine lv_imul hx hb dX3_grow_6 (lv_topi (fun zi9 ea10 => ?_))
  have bd11 : (512 : Int) ≤ zi9.toInt ∧ zi9.toInt ≤ 262144 := b_imul ea10 bc_2 bd8 (by decide) (by decide) (by decide) (by decide) (by decide)
  have qe12 : zi9.toInt = (2 : Int32).toInt * (zi5 : Int32).toInt := e_imul (b := 2) (d := 131072) ea10 (b_wid2 bc_2 (by decide) (by decide)) (b_wid2 bd8 (by decide) (by decide)) (by decide)
  have qe13 : zi9.toInt = 2 * zi5.toInt := by have ha : (2 : Int32).toInt = 2 := (by decide); rw [ha] at qe12; exact qe12
  refine lv_istore_n (lv' := [(1, .int zi9), (0, .ref qa900)]) hx hb dX3_grow_7 rfl hl (by decide) rfl (fun ls hl => ?_)
  refine lv_iload_n hx hb dX3_grow_8 rfl (lv_at hl 0 rfl) ?_
  refine lv_ldc (v := 131072) hx hb hown (hT _ tb_1160) dX3_grow_9 ?_
  refine lv_icmp_le (tgt := 15) hx hb dX3_grow_11 (by decide) (fun cn14 => ?_) (fun cn14 => ?_)
  · skip
    have bd15 : (512 : Int) ≤ zi9.toInt ∧ zi9.toInt ≤ 131072 := r_le_x cn14 bd11 bc_131072 (by decide) (by decide)
    exact False.elim (by omega)
  · skip
    have bd16 : (131073 : Int) ≤ zi9.toInt ∧ zi9.toInt ≤ 262144 := r_lt_y (Int32.not_le.mp cn14) bc_131072 bd11 (by decide) (by decide)
    rw [hQ]
    exact kz_v hx hb hr hlocks hS hp0 hw ⟨ok0, (Fr.rf)⟩ (Nat.le_of_ble_eq_true rfl) (Nat.le_of_ble_eq_true rfl) dX3_grow_14

set_option maxRecDepth 100000 in
set_option maxHeartbeats 4000000 in
theorem cX3_add_vA0_0 (l : Launch) (G : va_G) (cy : Nat → ClassId) (ev : Ew) (K ln : Nat → Nat) (Ls : List Nat) (hW : SW K ln Ls) (sz : Nat) (hp0 : Nat → Nat → Value) (ok0 : Ok K hp0) (qa900 : Nat) (qa901 : Nat) (zi902 : Int32) (wl903 : Int64) (zi904 : Int32) (gn : Nat) (kd900 : K qa900 = 4) (kd901 : K qa901 = 8) (pdNS : NSx K ln hp0 gn) (xp0 : gi hp0 qa900 6 < gn) : Met l yX3_add (WS yX3_add cX3_add 7 none) { frames := 2, cells := 0, slots := 0, locals := 51 } (PB2 [.ref qa900, .ref qa901, .int zi902, .long wl903, .int zi904] sz G cy ev (va_pl Ls (cellOf cy K ln hp0))) (QBv (S := (Nat → Nat → Value)) (fun u : (Nat → Nat → Value) => Ok K u ∧ Fr [4006, 28000, 29000, 30000, 31000, 32000, 33000] K hp0 u ∧ (NSx K ln u gn) ∧ ((gi u qa900 6) ≥ (gi hp0 qa900 6))) G (fun u => va_pl Ls (cellOf cy K ln u)) (va_A (va_pl Ls (cellOf cy K ln hp0)) sz)) 0 0 (va_A (va_pl Ls (cellOf cy K ln hp0)) sz) := by
  refine met_of2 (y := yX3_add) (L := 7) (av := [.ref qa900, .ref qa901, .int zi902, .long wl903, .int zi904]) (Qc := fun A => QBv (S := (Nat → Nat → Value)) (fun u : (Nat → Nat → Value) => Ok K u ∧ Fr [4006, 28000, 29000, 30000, 31000, 32000, 33000] K hp0 u ∧ (NSx K ln u gn) ∧ ((gi u qa900 6) ≥ (gi hp0 qa900 6))) G (fun u => va_pl Ls (cellOf cy K ln u)) A) (plainFor_of_name (by decide)) (Nat.le_of_ble_eq_true rfl) ?_
  intro p e s m below meth c hsz hx hb hr hml hown hT hlocks hin hK A hA hE hw hS ls hl
  have hw : PW G cy K ln Ls A hp0 s.heap := hw
  have hown : s.vm.findClass "LieClock$Nodes" = some m.cls := hown
  have hl : lv_has ls 7 [(0, .ref qa900), (1, .ref qa901), (2, .int zi902), (3, .long wl903), (5, .int zi904)] := hl
  obtain ⟨Q, hQ⟩ : ∃ Q : State → Prop, Q = MQ below (QBv (S := (Nat → Nat → Value)) (fun u : (Nat → Nat → Value) => Ok K u ∧ Fr [4006, 28000, 29000, 30000, 31000, 32000, 33000] K hp0 u ∧ (NSx K ln u gn) ∧ ((gi u qa900 6) ≥ (gi hp0 qa900 6))) G (fun u => va_pl Ls (cellOf cy K ln u)) A) ([.ref qa900, .ref qa901, .int zi902, .long wl903, .int zi904] : List Value).toArray s 0 0 A := ⟨_, rfl⟩
  rw [← hQ]
  obtain ⟨zi2, eq1, bd3⟩ := rd_4006 ok0 kd900
  have nz4 := (pdNS).sz kd900 eq1
  have hgn := NSx.bd pdNS
  have hsz := xp0
  rw [gi_of eq1] at hsz
  refine lv_aload_n hx hb dX3_add_0 rfl (lv_at hl 0 rfl) ?_
  refine lv_aload_n hx hb dX3_add_1 rfl (lv_at hl 1 rfl) ?_
  refine lv_iload hx hb dX3_add_2 (lv_at hl 4 rfl) ?_
  refine kq_i hw hS hA (va_runV (As := [.ref qa901, .int zi904]) (rest := []) ⟨hx, hb, hml, hown, hT⟩ (cX3_slotOf_0 l G cy ev K ln Ls hW _ hp0 ok0 qa900 qa901 zi904 gn kd900 kd901 pdNS) (cwV 2 hT (good_V tb_1146 tb_1143 tb_1145 tb_33 tb_117) rfl rfl rfl (by decide +kernel) ⟨Nat.le_of_ble_eq_true rfl, Nat.le_of_ble_eq_true rfl⟩) (pool_preV (ci := 3) hK hE hS hA hw hW kd900 (by decide) rfl) rfl rfl hl.1 rfl (lv_room (Nat.le_of_ble_eq_true rfl)) dX3_add_4 ⟨Nat.le_of_ble_eq_true rfl, Nat.le_of_ble_eq_true rfl⟩) (fun zi9 hp5 H locs hq8 hw hS => ?_)
  obtain ⟨ok6, F7, bd10, xq11, xq12⟩ := hq8
  obtain rfl : hp0 = hp5 := (Fr.nil F7).symm
  have hw : PW G cy K ln Ls A hp0 H := hw
  refine lv_istore (lv' := [(6, .int zi9), (0, .ref qa900), (1, .ref qa901), (2, .int zi902), (3, .long wl903), (5, .int zi904)]) hx hb dX3_add_7 hl (by decide) rfl (fun ls hl => ?_)
  refine lv_iload hx hb dX3_add_9 (lv_at hl 0 rfl) ?_
  refine lv_if_lt (tgt := 43) hx hb dX3_add_11 (by decide) (fun cn13 => ?_) (fun cn13 => ?_)
  · skip
    have bd14 : (-1 : Int) ≤ zi9.toInt ∧ zi9.toInt ≤ -1 := r_lt_x cn13 bd10 bc_0 (by decide) (by decide)
    refine lv_aload_n hx hb dX3_add_43 rfl (lv_at hl 1 rfl) ?_
    refine p_get (ci := 3) (v := .int zi2) (C := RX3) (T := TX3) (N := 7) hx hb hT iw_X3 hown hK hw hW kd900 (by decide) rfl rfl 6 (by decide) eq1 (hT _ tb_503) (fun _ h9 => h9) dX3_add_44 ?_
    refine lv_aload_n hx hb dX3_add_47 rfl (lv_at hl 1 rfl) ?_
    obtain ⟨qa16, eq15, kd17⟩ := rd_4000 ok0 kd900
    have ln18 := (pdNS).ref kd900 (by decide) eq15
    refine p_get (ci := 3) (v := .ref qa16) (C := RX3) (T := TX3) (N := 7) hx hb hT iw_X3 hown hK hw hW kd900 (by decide) rfl rfl 0 (by decide) eq15 (hT _ tb_492) (fun _ h9 => h9) dX3_add_48 ?_
    obtain ⟨zi19, ez20⟩ : ∃ z : Int32, Int32.ofNat (ln qa16) = z := ⟨_, rfl⟩
    refine p_alen (v := zi19) hx hb hK hw hW kd17 (by decide) rfl rfl ez20 dX3_add_51 ?_
    have hl21 : zi19.toInt = (gn : Nat) := by have h9 := ofNat_len ez20 (by rw [ln18]; omega); rw [ln18] at h9; exact h9
    have bd22 : (256 : Int) ≤ zi19.toInt ∧ zi19.toInt ≤ 131072 := (by omega)
    refine lv_icmp_lt (tgt := 68) hx hb dX3_add_52 (by decide) (fun cn23 => ?_) (fun cn23 => ?_)
    · skip
      have tf24 : zi2.toInt < zi19.toInt := (fa_lt _ _).mp cn23
      have bd25 : (0 : Int) ≤ zi2.toInt ∧ zi2.toInt ≤ 131071 := r_lt_x cn23 bd3 bd22 (by decide) (by decide)
      refine lv_iload hx hb dX3_add_68 (lv_at hl 0 rfl) ?_
      refine lv_if_lt (tgt := 85) hx hb dX3_add_70 (by decide) (fun _ => ?_) (fun c => absurd (d_lt bd14 bc_0 (by decide)) c)
      rw [hQ]
      exact kz_v hx hb hr hlocks hS hp0 hw ⟨ok0, (Fr.rf), (pdNS), (by simp only [gi_of eq1]; omega)⟩ (Nat.le_of_ble_eq_true rfl) (Nat.le_of_ble_eq_true rfl) dX3_add_85
    · skip
      have tf26 : zi19.toInt ≤ zi2.toInt := (fa_le _ _).mp (Int32.not_lt.mp cn23)
      have bd27 : (256 : Int) ≤ zi2.toInt ∧ zi2.toInt ≤ 131072 := r_le_y (Int32.not_lt.mp cn23) bd22 bd3 (by decide) (by decide)
      exact False.elim (by omega)
  · skip
    have bd28 : (0 : Int) ≤ zi9.toInt ∧ zi9.toInt ≤ 262143 := r_le_y (Int32.not_lt.mp cn13) bc_0 bd10 (by decide) (by decide)
    refine lv_aload_n hx hb dX3_add_14 rfl (lv_at hl 1 rfl) ?_
    obtain ⟨qa30, eq29, kd31⟩ := rd_4005 ok0 kd900
    have ln32 := (pdNS).tab kd900 eq29
    refine p_get (ci := 3) (v := .ref qa30) (C := RX3) (T := TX3) (N := 7) hx hb hT iw_X3 hown hK hw hW kd900 (by decide) rfl rfl 5 (by decide) eq29 (hT _ tb_502) (fun _ h9 => h9) dX3_add_15 ?_
    refine lv_iload hx hb dX3_add_18 (lv_at hl 0 rfl) ?_
    obtain ⟨zi34, eq33, bd35⟩ := rd_33000 ok0 kd31 ((zi9 : Int32).toNatClampNeg)
    have nz36 := (pdNS).elt kd900 eq29 (vp_bv (by omega) (by omega)) eq33
    refine p_iald (v := zi34) hx hb hK hw hW kd31 (by decide) rfl ln32 (vp_bv (by omega) (by omega)) eq33 dX3_add_20 ?_
    refine lv_if_le (tgt := 43) hx hb dX3_add_21 (by decide) (fun cn37 => ?_) (fun cn37 => ?_)
    · skip
      have bd38 : (0 : Int) ≤ zi34.toInt ∧ zi34.toInt ≤ 0 := r_le_x cn37 bd35 bc_0 (by decide) (by decide)
      refine lv_aload_n hx hb dX3_add_43 rfl (lv_at hl 1 rfl) ?_
      refine p_get (ci := 3) (v := .int zi2) (C := RX3) (T := TX3) (N := 7) hx hb hT iw_X3 hown hK hw hW kd900 (by decide) rfl rfl 6 (by decide) eq1 (hT _ tb_503) (fun _ h9 => h9) dX3_add_44 ?_
      refine lv_aload_n hx hb dX3_add_47 rfl (lv_at hl 1 rfl) ?_
      obtain ⟨qa40, eq39, kd41⟩ := rd_4000 ok0 kd900
      have ln42 := (pdNS).ref kd900 (by decide) eq39
      refine p_get (ci := 3) (v := .ref qa40) (C := RX3) (T := TX3) (N := 7) hx hb hT iw_X3 hown hK hw hW kd900 (by decide) rfl rfl 0 (by decide) eq39 (hT _ tb_492) (fun _ h9 => h9) dX3_add_48 ?_
      obtain ⟨zi43, ez44⟩ : ∃ z : Int32, Int32.ofNat (ln qa40) = z := ⟨_, rfl⟩
      refine p_alen (v := zi43) hx hb hK hw hW kd41 (by decide) rfl rfl ez44 dX3_add_51 ?_
      have hl45 : zi43.toInt = (gn : Nat) := by have h9 := ofNat_len ez44 (by rw [ln42]; omega); rw [ln42] at h9; exact h9
      have bd46 : (256 : Int) ≤ zi43.toInt ∧ zi43.toInt ≤ 131072 := (by omega)
      refine lv_icmp_lt (tgt := 68) hx hb dX3_add_52 (by decide) (fun cn47 => ?_) (fun cn47 => ?_)
      · skip
        have tf48 : zi2.toInt < zi43.toInt := (fa_lt _ _).mp cn47
        have bd49 : (0 : Int) ≤ zi2.toInt ∧ zi2.toInt ≤ 131071 := r_lt_x cn47 bd3 bd46 (by decide) (by decide)
        refine lv_iload hx hb dX3_add_68 (lv_at hl 0 rfl) ?_
        refine lv_if_lt (tgt := 85) hx hb dX3_add_70 (by decide) (fun c => absurd c (d_nlt bd28 bc_0 (by decide))) (fun _ => ?_)
        refine lv_aload_n hx hb dX3_add_73 rfl (lv_at hl 1 rfl) ?_
        refine p_get (ci := 3) (v := .int zi2) (C := RX3) (T := TX3) (N := 7) hx hb hT iw_X3 hown hK hw hW kd900 (by decide) rfl rfl 6 (by decide) eq1 (hT _ tb_503) (fun _ h9 => h9) dX3_add_74 ?_
        refine lv_aload_n hx hb dX3_add_77 rfl (lv_at hl 1 rfl) ?_
        refine p_get (ci := 3) (v := .ref qa40) (C := RX3) (T := TX3) (N := 7) hx hb hT iw_X3 hown hK hw hW kd900 (by decide) rfl rfl 0 (by decide) eq39 (hT _ tb_492) (fun _ h9 => h9) dX3_add_78 ?_
        obtain ⟨zi50, ez51⟩ : ∃ z : Int32, Int32.ofNat (ln qa40) = z := ⟨_, rfl⟩
        refine p_alen (v := zi50) hx hb hK hw hW kd41 (by decide) rfl rfl ez51 dX3_add_81 ?_
        have hl52 : zi50.toInt = (gn : Nat) := by have h9 := ofNat_len ez51 (by rw [ln42]; omega); rw [ln42] at h9; exact h9
        have bd53 : (256 : Int) ≤ zi50.toInt ∧ zi50.toInt ≤ 131072 := (by omega)
        refine lv_icmp_lt (tgt := 86) hx hb dX3_add_82 (by decide) (fun cn54 => ?_) (fun cn54 => ?_)
        · skip
          have tf55 : zi2.toInt < zi50.toInt := (fa_lt _ _).mp cn54
          refine lv_aload_n hx hb dX3_add_86 rfl (lv_at hl 1 rfl) ?_
          refine p_get (ci := 3) (v := .ref qa40) (C := RX3) (T := TX3) (N := 7) hx hb hT iw_X3 hown hK hw hW kd900 (by decide) rfl rfl 0 (by decide) eq39 (hT _ tb_492) (fun _ h9 => h9) dX3_add_87 ?_
          refine lv_aload_n hx hb dX3_add_90 rfl (lv_at hl 1 rfl) ?_
          refine p_get (ci := 3) (v := .int zi2) (C := RX3) (T := TX3) (N := 7) hx hb hT iw_X3 hown hK hw hW kd900 (by decide) rfl rfl 6 (by decide) eq1 (hT _ tb_503) (fun _ h9 => h9) dX3_add_91 ?_
          refine lv_aload_n hx hb dX3_add_94 rfl (lv_at hl 2 rfl) ?_
          refine kq_i hw hS hA (va_runS (As := [.ref qa901]) (rest := [.int zi2, .ref qa40]) ⟨hx, hb, hml, hown, hT⟩ (cX3_packed_0 l G cy ev K ln Ls hW _ hp0 ok0 qa901 kd901) (va_cwS 1 hT (good_S tb_1149 tb_1147 tb_1148 tb_117) rfl rfl rfl (by decide +kernel) ⟨Nat.le_of_ble_eq_true rfl, Nat.le_of_ble_eq_true rfl⟩) (PB2.preS hK hE hS hA hw) rfl rfl hl.1 rfl (lv_room (Nat.le_of_ble_eq_true rfl)) dX3_add_95 ⟨Nat.le_of_ble_eq_true rfl, Nat.le_of_ble_eq_true rfl⟩) (fun zi60 hp56 H locs hq59 hw hS => ?_)
          obtain ⟨ok57, F58, xq61⟩ := hq59
          obtain rfl : hp0 = hp56 := (Fr.nil F58).symm
          have hw : PW G cy K ln Ls A hp0 H := hw
          refine p_iast (x := zi60) hx hb hK hw hS hW kd41 (by decide) rfl ln42 (vp_bv (by omega) (by omega)) dX3_add_98 (fun hp62 eh63 H locs hw hS => ?_)
          have ok64 := wr_28000 ok0 kd41 eh63
          refine lv_aload_n hx hb dX3_add_99 rfl (lv_at hl 1 rfl) ?_
          obtain ⟨qa66, eq65, kd67⟩ := rd_4001 ok64 kd900
          have pd68 : NSx K ln hp62 gn := NSx_fr ok0  (show Fr [28000] K hp0 hp62 from (Fr.put (cq := 28000) (Fr.rf) eh63 kd41 (cd_a (by decide)) (by decide))) (by decide) pdNS
          have ln69 := (pd68).ref kd900 (by decide) eq65
          refine p_get (ci := 3) (v := .ref qa66) (C := RX3) (T := TX3) (N := 7) hx hb hT iw_X3 hown hK hw hW kd900 (by decide) rfl rfl 1 (by decide) eq65 (hT _ tb_495) (fun _ h9 => h9) dX3_add_100 ?_
          refine lv_aload_n hx hb dX3_add_103 rfl (lv_at hl 1 rfl) ?_
          have eq70 : hp62 qa900 6 = .int zi2 := Eq.trans (up_at eh63 (Or.inl (kd_ne kd900 kd41 (by decide)))) eq1
          refine p_get (ci := 3) (v := .int zi2) (C := RX3) (T := TX3) (N := 7) hx hb hT iw_X3 hown hK hw hW kd900 (by decide) rfl rfl 6 (by decide) eq70 (hT _ tb_503) (fun _ h9 => h9) dX3_add_104 ?_
          refine lv_aload_n hx hb dX3_add_107 rfl (lv_at hl 2 rfl) ?_
          obtain ⟨zi72, eq71⟩ := rd_8000 ok64 kd901
          refine p_getN (ci := 7) (v := .int zi72) (C := RX7) (T := TX7) (N := 13) hx hb hT iw_X7 hown hK hw hW kd901 (by decide) rfl rfl 0 (by decide) eq71 (hK.fl nw_308) (fun _ h9 => h9) dX3_add_108 ?_
          refine p_iast (x := zi72) hx hb hK hw hS hW kd67 (by decide) rfl ln69 (vp_bv (by omega) (by omega)) dX3_add_111 (fun hp73 eh74 H locs hw hS => ?_)
          have ok75 := wr_29000 ok64 kd67 eh74
          refine lv_aload_n hx hb dX3_add_112 rfl (lv_at hl 1 rfl) ?_
          obtain ⟨qa77, eq76, kd78⟩ := rd_4002 ok75 kd900
          have pd79 : NSx K ln hp73 gn := NSx_fr ok64  (show Fr [29000] K hp62 hp73 from (Fr.put (cq := 29000) (Fr.rf) eh74 kd67 (cd_a (by decide)) (by decide))) (by decide) pd68
          have ln80 := (pd79).ref kd900 (by decide) eq76
          refine p_get (ci := 3) (v := .ref qa77) (C := RX3) (T := TX3) (N := 7) hx hb hT iw_X3 hown hK hw hW kd900 (by decide) rfl rfl 2 (by decide) eq76 (hT _ tb_497) (fun _ h9 => h9) dX3_add_113 ?_
          refine lv_aload_n hx hb dX3_add_116 rfl (lv_at hl 1 rfl) ?_
          have eq81 : hp73 qa900 6 = .int zi2 := Eq.trans (up_at eh74 (Or.inl (kd_ne kd900 kd67 (by decide)))) eq70
          refine p_get (ci := 3) (v := .int zi2) (C := RX3) (T := TX3) (N := 7) hx hb hT iw_X3 hown hK hw hW kd900 (by decide) rfl rfl 6 (by decide) eq81 (hT _ tb_503) (fun _ h9 => h9) dX3_add_117 ?_
          refine lv_aload_n hx hb dX3_add_120 rfl (lv_at hl 2 rfl) ?_
          obtain ⟨zi83, eq82⟩ := rd_8004 ok75 kd901
          refine p_getN (ci := 7) (v := .int zi83) (C := RX7) (T := TX7) (N := 13) hx hb hT iw_X7 hown hK hw hW kd901 (by decide) rfl rfl 4 (by decide) eq82 (hK.fl nw_323) (fun _ h9 => h9) dX3_add_121 ?_
          refine p_iast (x := zi83) hx hb hK hw hS hW kd78 (by decide) rfl ln80 (vp_bv (by omega) (by omega)) dX3_add_124 (fun hp84 eh85 H locs hw hS => ?_)
          have ok86 := wr_30000 ok75 kd78 eh85
          refine lv_aload_n hx hb dX3_add_125 rfl (lv_at hl 1 rfl) ?_
          obtain ⟨qa88, eq87, kd89⟩ := rd_4003 ok86 kd900
          have pd90 : NSx K ln hp84 gn := NSx_fr ok75  (show Fr [30000] K hp73 hp84 from (Fr.put (cq := 30000) (Fr.rf) eh85 kd78 (cd_a (by decide)) (by decide))) (by decide) pd79
          have ln91 := (pd90).ref kd900 (by decide) eq87
          refine p_get (ci := 3) (v := .ref qa88) (C := RX3) (T := TX3) (N := 7) hx hb hT iw_X3 hown hK hw hW kd900 (by decide) rfl rfl 3 (by decide) eq87 (hT _ tb_498) (fun _ h9 => h9) dX3_add_126 ?_
          refine lv_aload_n hx hb dX3_add_129 rfl (lv_at hl 1 rfl) ?_
          have eq92 : hp84 qa900 6 = .int zi2 := Eq.trans (up_at eh85 (Or.inl (kd_ne kd900 kd78 (by decide)))) eq81
          refine p_get (ci := 3) (v := .int zi2) (C := RX3) (T := TX3) (N := 7) hx hb hT iw_X3 hown hK hw hW kd900 (by decide) rfl rfl 6 (by decide) eq92 (hT _ tb_503) (fun _ h9 => h9) dX3_add_130 ?_
          refine lv_iload_n hx hb dX3_add_133 rfl (lv_at hl 3 rfl) ?_
          refine p_iast (x := zi902) hx hb hK hw hS hW kd89 (by decide) rfl ln91 (vp_bv (by omega) (by omega)) dX3_add_134 (fun hp93 eh94 H locs hw hS => ?_)
          have ok95 := wr_31000 ok86 kd89 eh94
          refine lv_aload_n hx hb dX3_add_135 rfl (lv_at hl 1 rfl) ?_
          obtain ⟨qa97, eq96, kd98⟩ := rd_4004 ok95 kd900
          have pd99 : NSx K ln hp93 gn := NSx_fr ok86  (show Fr [31000] K hp84 hp93 from (Fr.put (cq := 31000) (Fr.rf) eh94 kd89 (cd_a (by decide)) (by decide))) (by decide) pd90
          have ln100 := (pd99).ref kd900 (by decide) eq96
          refine p_get (ci := 3) (v := .ref qa97) (C := RX3) (T := TX3) (N := 7) hx hb hT iw_X3 hown hK hw hW kd900 (by decide) rfl rfl 4 (by decide) eq96 (hT _ tb_500) (fun _ h9 => h9) dX3_add_136 ?_
          refine lv_aload_n hx hb dX3_add_139 rfl (lv_at hl 1 rfl) ?_
          have eq101 : hp93 qa900 6 = .int zi2 := Eq.trans (up_at eh94 (Or.inl (kd_ne kd900 kd89 (by decide)))) eq92
          refine p_get (ci := 3) (v := .int zi2) (C := RX3) (T := TX3) (N := 7) hx hb hT iw_X3 hown hK hw hW kd900 (by decide) rfl rfl 6 (by decide) eq101 (hT _ tb_503) (fun _ h9 => h9) dX3_add_140 ?_
          refine lv_lload_n hx hb dX3_add_143 rfl (lv_at hl 4 rfl) ?_
          refine p_last (x := wl903) hx hb hK hw hS hW kd98 (by decide) rfl ln100 (vp_bv (by omega) (by omega)) dX3_add_144 (fun hp102 eh103 H locs hw hS => ?_)
          have ok104 := wr_32000 ok95 kd98 eh103
          refine lv_aload_n hx hb dX3_add_145 rfl (lv_at hl 1 rfl) ?_
          refine lv_dup hx hb dX3_add_146 rfl ?_
          have eq105 : hp102 qa900 6 = .int zi2 := Eq.trans (up_at eh103 (Or.inl (kd_ne kd900 kd98 (by decide)))) eq101
          refine p_get (ci := 3) (v := .int zi2) (C := RX3) (T := TX3) (N := 7) hx hb hT iw_X3 hown hK hw hW kd900 (by decide) rfl rfl 6 (by decide) eq105 (hT _ tb_503) (fun _ h9 => h9) dX3_add_147 ?_
          refine lv_iconst (v := 1) hx hb dX3_add_150 (by decide) ?_
          refine lv_iadd hx hb dX3_add_151 (lv_topi (fun zi106 ea107 => ?_))
          have bd108 : (1 : Int) ≤ zi106.toInt ∧ zi106.toInt ≤ 131072 := b_iadd ea107 bd49 bc_1 (by decide) (by decide) (by decide) (by decide)
          have qe109 : zi106.toInt = (zi2 : Int32).toInt + (1 : Int32).toInt := e_iadd ea107 bd49 bc_1 (by decide) (by decide)
          have qe110 : zi106.toInt = zi2.toInt + 1 := by have ha : (1 : Int32).toInt = 1 := (by decide); rw [ha] at qe109; exact qe109
          have pd111 : NSx K ln hp102 gn := NSx_fr ok95  (show Fr [32000] K hp93 hp102 from (Fr.put (cq := 32000) (Fr.rf) eh103 kd98 (cd_a (by decide)) (by decide))) (by decide) pd99
          refine p_put (ci := 3) (v := .int zi106) (ty := .int) (C := RX3) (T := TX3) (N := 7) hx hb hT iw_X3 tyX3 tyX3_ok nmX3 hown hK hw hS hW kd900 (by decide) rfl rfl 6 (by decide) (hT _ tb_503) (fun _ h9 => h9) rfl (by decide +kernel) rfl rfl dX3_add_152 (fun hp112 eh113 H locs hw hS => ?_)
          have ok114 := wr_4006 bd108 (by decide) (by decide) ok104 kd900 eh113
          have ns115 : NSx K ln hp112 gn := NSx_size pd111 eh113 kd900 (by omega) ok104
          refine lv_aload_n hx hb dX3_add_155 rfl (lv_at hl 1 rfl) ?_
          have eq116 : hp112 qa900 5 = .ref qa30 := Eq.trans (up_at eh113 (Or.inr (by decide))) (Eq.trans (up_at eh103 (Or.inl (kd_ne kd900 kd98 (by decide)))) (Eq.trans (up_at eh94 (Or.inl (kd_ne kd900 kd89 (by decide)))) (Eq.trans (up_at eh85 (Or.inl (kd_ne kd900 kd78 (by decide)))) (Eq.trans (up_at eh74 (Or.inl (kd_ne kd900 kd67 (by decide)))) (Eq.trans (up_at eh63 (Or.inl (kd_ne kd900 kd41 (by decide)))) eq29)))))
          refine p_get (ci := 3) (v := .ref qa30) (C := RX3) (T := TX3) (N := 7) hx hb hT iw_X3 hown hK hw hW kd900 (by decide) rfl rfl 5 (by decide) eq116 (hT _ tb_502) (fun _ h9 => h9) dX3_add_156 ?_
          refine lv_iload hx hb dX3_add_159 (lv_at hl 0 rfl) ?_
          refine lv_aload_n hx hb dX3_add_161 rfl (lv_at hl 1 rfl) ?_
          refine p_get (ci := 3) (v := .int zi106) (C := RX3) (T := TX3) (N := 7) hx hb hT iw_X3 hown hK hw hW kd900 (by decide) rfl rfl 6 (by decide) (hp_self eh113) (hT _ tb_503) (fun _ h9 => h9) dX3_add_162 ?_
          refine p_iast (x := zi106) hx hb hK hw hS hW kd31 (by decide) rfl ln32 (vp_bv (by omega) (by omega)) dX3_add_165 (fun hp117 eh118 H locs hw hS => ?_)
          have ok119 := wr_33000 bd108 (by decide) (by decide) ok114 kd31 eh118
          have ns120 : NSx K ln hp117 gn := NSx_tab ns115 kd31 eh118 (by omega)
          have eq121 : hp117 qa900 6 = .int zi106 := Eq.trans (up_at eh118 (Or.inl (kd_ne kd900 kd31 (by decide)))) (hp_self eh113)
          rw [hQ]
          exact kz_v hx hb hr hlocks hS hp117 hw ⟨ok119, (Fr.put (cq := 33000) (Fr.put (cq := 4006) (Fr.put (cq := 32000) (Fr.put (cq := 31000) (Fr.put (cq := 30000) (Fr.put (cq := 29000) (Fr.put (cq := 28000) (Fr.rf) eh63 kd41 (cd_a (by decide)) (by decide)) eh74 kd67 (cd_a (by decide)) (by decide)) eh85 kd78 (cd_a (by decide)) (by decide)) eh94 kd89 (cd_a (by decide)) (by decide)) eh103 kd98 (cd_a (by decide)) (by decide)) eh113 kd900 (cd_o (by decide)) (by decide)) eh118 kd31 (cd_a (by decide)) (by decide)), (ns120), (by simp only [gi_of eq1, gi_of eq121]; omega)⟩ (Nat.le_of_ble_eq_true rfl) (Nat.le_of_ble_eq_true rfl) dX3_add_166
        · skip
          have tf122 : zi50.toInt ≤ zi2.toInt := (fa_le _ _).mp (Int32.not_lt.mp cn54)
          have bd123 : (256 : Int) ≤ zi50.toInt ∧ zi50.toInt ≤ 131071 := r_le_x (Int32.not_lt.mp cn54) bd53 bd49 (by decide) (by decide)
          have bd124 : (256 : Int) ≤ zi2.toInt ∧ zi2.toInt ≤ 131071 := r_le_y (Int32.not_lt.mp cn54) bd53 bd49 (by decide) (by decide)
          rw [hQ]
          exact kz_v hx hb hr hlocks hS hp0 hw ⟨ok0, (Fr.rf), (pdNS), (by simp only [gi_of eq1]; omega)⟩ (Nat.le_of_ble_eq_true rfl) (Nat.le_of_ble_eq_true rfl) dX3_add_85
      · skip
        have tf125 : zi43.toInt ≤ zi2.toInt := (fa_le _ _).mp (Int32.not_lt.mp cn47)
        have bd126 : (256 : Int) ≤ zi2.toInt ∧ zi2.toInt ≤ 131072 := r_le_y (Int32.not_lt.mp cn47) bd46 bd3 (by decide) (by decide)
        exact False.elim (by omega)
    · skip
      have bd127 : (1 : Int) ≤ zi34.toInt ∧ zi34.toInt ≤ 131072 := r_lt_y (Int32.not_le.mp cn37) bc_0 bd35 (by decide) (by decide)
      refine lv_aload_n hx hb dX3_add_24 rfl (lv_at hl 1 rfl) ?_
      obtain ⟨qa129, eq128, kd130⟩ := rd_4004 ok0 kd900
      have ln131 := (pdNS).ref kd900 (by decide) eq128
      refine p_get (ci := 3) (v := .ref qa129) (C := RX3) (T := TX3) (N := 7) hx hb hT iw_X3 hown hK hw hW kd900 (by decide) rfl rfl 4 (by decide) eq128 (hT _ tb_500) (fun _ h9 => h9) dX3_add_25 ?_
      refine lv_aload_n hx hb dX3_add_28 rfl (lv_at hl 1 rfl) ?_
      refine p_get (ci := 3) (v := .ref qa30) (C := RX3) (T := TX3) (N := 7) hx hb hT iw_X3 hown hK hw hW kd900 (by decide) rfl rfl 5 (by decide) eq29 (hT _ tb_502) (fun _ h9 => h9) dX3_add_29 ?_
      refine lv_iload hx hb dX3_add_32 (lv_at hl 0 rfl) ?_
      refine p_iald (v := zi34) hx hb hK hw hW kd31 (by decide) rfl ln32 (vp_bv (by omega) (by omega)) eq33 dX3_add_34 ?_
      refine lv_iconst (v := 1) hx hb dX3_add_35 (by decide) ?_
      refine lv_isub hx hb dX3_add_36 (lv_topi (fun zi132 ea133 => ?_))
      have bd134 : (0 : Int) ≤ zi132.toInt ∧ zi132.toInt ≤ 131071 := b_isub ea133 bd127 bc_1 (by decide) (by decide) (by decide) (by decide)
      have qe135 : zi132.toInt = (zi34 : Int32).toInt - (1 : Int32).toInt := e_isub ea133 bd127 bc_1 (by decide) (by decide)
      have qe136 : zi132.toInt = zi34.toInt - 1 := by have ha : (1 : Int32).toInt = 1 := (by decide); rw [ha] at qe135; exact qe135
      refine lv_dup2_11 hx hb dX3_add_37 rfl rfl ?_
      obtain ⟨wl138, eq137⟩ := rd_32000 ok0 kd130 ((zi132 : Int32).toNatClampNeg)
      refine p_lald (v := wl138) hx hb hK hw hW kd130 (by decide) rfl ln131 (vp_bv (by omega) (by omega)) eq137 dX3_add_38 ?_
      refine lv_lload_n hx hb dX3_add_39 rfl (lv_at hl 4 rfl) ?_
      refine lv_ladd hx hb dX3_add_40 (lv_topl (fun wl139 _ => ?_))
      refine p_last (x := wl139) hx hb hK hw hS hW kd130 (by decide) rfl ln131 (vp_bv (by omega) (by omega)) dX3_add_41 (fun hp140 eh141 H locs hw hS => ?_)
      have ok142 := wr_32000 ok0 kd130 eh141
      have pd143 : NSx K ln hp140 gn := NSx_fr ok0  (show Fr [32000] K hp0 hp140 from (Fr.put (cq := 32000) (Fr.rf) eh141 kd130 (cd_a (by decide)) (by decide))) (by decide) pdNS
      have eq144 : hp140 qa900 6 = .int zi2 := Eq.trans (up_at eh141 (Or.inl (kd_ne kd900 kd130 (by decide)))) eq1
      rw [hQ]
      exact kz_v hx hb hr hlocks hS hp140 hw ⟨ok142, (Fr.put (cq := 32000) (Fr.rf) eh141 kd130 (cd_a (by decide)) (by decide)), (pd143), (by simp only [gi_of eq1, gi_of eq144]; omega)⟩ (Nat.le_of_ble_eq_true rfl) (Nat.le_of_ble_eq_true rfl) dX3_add_42

set_option maxRecDepth 100000 in
set_option maxHeartbeats 4000000 in
theorem cX3_add_vAF_0 (l : Launch) (G : va_G) (cy : Nat → ClassId) (ev : Ew) (K ln : Nat → Nat) (Ls : List Nat) (hW : SW K ln Ls) (sz : Nat) (hp0 : Nat → Nat → Value) (ok0 : Ok K hp0) (qa900 : Nat) (qa901 : Nat) (zi902 : Int32) (wl903 : Int64) (zi904 : Int32) (gn : Nat) (kd900 : K qa900 = 4) (kd901 : K qa901 = 8) (pdNS : NSx K ln hp0 gn) (xp0 : FND hp0 qa900 qa901 gn zi904) : Met l yX3_add (WS yX3_add cX3_add 7 none) { frames := 2, cells := 0, slots := 0, locals := 51 } (PB2 [.ref qa900, .ref qa901, .int zi902, .long wl903, .int zi904] sz G cy ev (va_pl Ls (cellOf cy K ln hp0))) (QBv (S := (Nat → Nat → Value)) (fun u : (Nat → Nat → Value) => Ok K u ∧ Fr [32000] K hp0 u ∧ (NSx K ln u gn) ∧ ((gi u qa900 6) ≥ (gi hp0 qa900 6))) G (fun u => va_pl Ls (cellOf cy K ln u)) (va_A (va_pl Ls (cellOf cy K ln hp0)) sz)) 0 0 (va_A (va_pl Ls (cellOf cy K ln hp0)) sz) := by
  refine met_of2 (y := yX3_add) (L := 7) (av := [.ref qa900, .ref qa901, .int zi902, .long wl903, .int zi904]) (Qc := fun A => QBv (S := (Nat → Nat → Value)) (fun u : (Nat → Nat → Value) => Ok K u ∧ Fr [32000] K hp0 u ∧ (NSx K ln u gn) ∧ ((gi u qa900 6) ≥ (gi hp0 qa900 6))) G (fun u => va_pl Ls (cellOf cy K ln u)) A) (plainFor_of_name (by decide)) (Nat.le_of_ble_eq_true rfl) ?_
  intro p e s m below meth c hsz hx hb hr hml hown hT hlocks hin hK A hA hE hw hS ls hl
  have hw : PW G cy K ln Ls A hp0 s.heap := hw
  have hown : s.vm.findClass "LieClock$Nodes" = some m.cls := hown
  have hl : lv_has ls 7 [(0, .ref qa900), (1, .ref qa901), (2, .int zi902), (3, .long wl903), (5, .int zi904)] := hl
  obtain ⟨Q, hQ⟩ : ∃ Q : State → Prop, Q = MQ below (QBv (S := (Nat → Nat → Value)) (fun u : (Nat → Nat → Value) => Ok K u ∧ Fr [32000] K hp0 u ∧ (NSx K ln u gn) ∧ ((gi u qa900 6) ≥ (gi hp0 qa900 6))) G (fun u => va_pl Ls (cellOf cy K ln u)) A) ([.ref qa900, .ref qa901, .int zi902, .long wl903, .int zi904] : List Value).toArray s 0 0 A := ⟨_, rfl⟩
  rw [← hQ]
  obtain ⟨zi2, eq1, bd3⟩ := rd_4006 ok0 kd900
  have nz4 := (pdNS).sz kd900 eq1
  have hgn := NSx.bd pdNS
  refine lv_aload_n hx hb dX3_add_0 rfl (lv_at hl 0 rfl) ?_
  refine lv_aload_n hx hb dX3_add_1 rfl (lv_at hl 1 rfl) ?_
  refine lv_iload hx hb dX3_add_2 (lv_at hl 4 rfl) ?_
  refine kq_i hw hS hA (va_runV (As := [.ref qa901, .int zi904]) (rest := []) ⟨hx, hb, hml, hown, hT⟩ (cX3_slotOf_0 l G cy ev K ln Ls hW _ hp0 ok0 qa900 qa901 zi904 gn kd900 kd901 pdNS) (cwV 2 hT (good_V tb_1146 tb_1143 tb_1145 tb_33 tb_117) rfl rfl rfl (by decide +kernel) ⟨Nat.le_of_ble_eq_true rfl, Nat.le_of_ble_eq_true rfl⟩) (pool_preV (ci := 3) hK hE hS hA hw hW kd900 (by decide) rfl) rfl rfl hl.1 rfl (lv_room (Nat.le_of_ble_eq_true rfl)) dX3_add_4 ⟨Nat.le_of_ble_eq_true rfl, Nat.le_of_ble_eq_true rfl⟩) (fun zi9 hp5 H locs hq8 hw hS => ?_)
  obtain ⟨ok6, F7, bd10, xq11, xq12⟩ := hq8
  obtain rfl : hp0 = hp5 := (Fr.nil F7).symm
  have hw : PW G cy K ln Ls A hp0 H := hw
  refine lv_istore (lv' := [(6, .int zi9), (0, .ref qa900), (1, .ref qa901), (2, .int zi902), (3, .long wl903), (5, .int zi904)]) hx hb dX3_add_7 hl (by decide) rfl (fun ls hl => ?_)
  refine lv_iload hx hb dX3_add_9 (lv_at hl 0 rfl) ?_
  refine lv_if_lt (tgt := 43) hx hb dX3_add_11 (by decide) (fun cn13 => ?_) (fun cn13 => ?_)
  · skip
    have bd14 : (-1 : Int) ≤ zi9.toInt ∧ zi9.toInt ≤ -1 := r_lt_x cn13 bd10 bc_0 (by decide) (by decide)
    obtain ⟨qa16, eq15, kd17⟩ := rd_4005 ok0 kd900
    have ln18 := (pdNS).tab kd900 eq15
    obtain ⟨r9, h1, h2, h3⟩ := xp0
    obtain rfl : zi9 = r9 := SLr_one xq11 h1
    exact False.elim (by omega)
  · skip
    have bd19 : (0 : Int) ≤ zi9.toInt ∧ zi9.toInt ≤ 262143 := r_le_y (Int32.not_lt.mp cn13) bc_0 bd10 (by decide) (by decide)
    refine lv_aload_n hx hb dX3_add_14 rfl (lv_at hl 1 rfl) ?_
    obtain ⟨qa21, eq20, kd22⟩ := rd_4005 ok0 kd900
    have ln23 := (pdNS).tab kd900 eq20
    refine p_get (ci := 3) (v := .ref qa21) (C := RX3) (T := TX3) (N := 7) hx hb hT iw_X3 hown hK hw hW kd900 (by decide) rfl rfl 5 (by decide) eq20 (hT _ tb_502) (fun _ h9 => h9) dX3_add_15 ?_
    refine lv_iload hx hb dX3_add_18 (lv_at hl 0 rfl) ?_
    obtain ⟨zi25, eq24, bd26⟩ := rd_33000 ok0 kd22 ((zi9 : Int32).toNatClampNeg)
    have nz27 := (pdNS).elt kd900 eq20 (vp_bv (by omega) (by omega)) eq24
    refine p_iald (v := zi25) hx hb hK hw hW kd22 (by decide) rfl ln23 (vp_bv (by omega) (by omega)) eq24 dX3_add_20 ?_
    refine lv_if_le (tgt := 43) hx hb dX3_add_21 (by decide) (fun cn28 => ?_) (fun cn28 => ?_)
    · skip
      have bd29 : (0 : Int) ≤ zi25.toInt ∧ zi25.toInt ≤ 0 := r_le_x cn28 bd26 bc_0 (by decide) (by decide)
      obtain ⟨r9, h1, h2, h3⟩ := xp0
      obtain rfl : zi9 = r9 := SLr_one xq11 h1
      rw [mA_of eq20 eq24] at h3
      exact False.elim (by omega)
    · skip
      have bd30 : (1 : Int) ≤ zi25.toInt ∧ zi25.toInt ≤ 131072 := r_lt_y (Int32.not_le.mp cn28) bc_0 bd26 (by decide) (by decide)
      refine lv_aload_n hx hb dX3_add_24 rfl (lv_at hl 1 rfl) ?_
      obtain ⟨qa32, eq31, kd33⟩ := rd_4004 ok0 kd900
      have ln34 := (pdNS).ref kd900 (by decide) eq31
      refine p_get (ci := 3) (v := .ref qa32) (C := RX3) (T := TX3) (N := 7) hx hb hT iw_X3 hown hK hw hW kd900 (by decide) rfl rfl 4 (by decide) eq31 (hT _ tb_500) (fun _ h9 => h9) dX3_add_25 ?_
      refine lv_aload_n hx hb dX3_add_28 rfl (lv_at hl 1 rfl) ?_
      refine p_get (ci := 3) (v := .ref qa21) (C := RX3) (T := TX3) (N := 7) hx hb hT iw_X3 hown hK hw hW kd900 (by decide) rfl rfl 5 (by decide) eq20 (hT _ tb_502) (fun _ h9 => h9) dX3_add_29 ?_
      refine lv_iload hx hb dX3_add_32 (lv_at hl 0 rfl) ?_
      refine p_iald (v := zi25) hx hb hK hw hW kd22 (by decide) rfl ln23 (vp_bv (by omega) (by omega)) eq24 dX3_add_34 ?_
      refine lv_iconst (v := 1) hx hb dX3_add_35 (by decide) ?_
      refine lv_isub hx hb dX3_add_36 (lv_topi (fun zi35 ea36 => ?_))
      have bd37 : (0 : Int) ≤ zi35.toInt ∧ zi35.toInt ≤ 131071 := b_isub ea36 bd30 bc_1 (by decide) (by decide) (by decide) (by decide)
      have qe38 : zi35.toInt = (zi25 : Int32).toInt - (1 : Int32).toInt := e_isub ea36 bd30 bc_1 (by decide) (by decide)
      have qe39 : zi35.toInt = zi25.toInt - 1 := by have ha : (1 : Int32).toInt = 1 := (by decide); rw [ha] at qe38; exact qe38
      refine lv_dup2_11 hx hb dX3_add_37 rfl rfl ?_
      obtain ⟨wl41, eq40⟩ := rd_32000 ok0 kd33 ((zi35 : Int32).toNatClampNeg)
      refine p_lald (v := wl41) hx hb hK hw hW kd33 (by decide) rfl ln34 (vp_bv (by omega) (by omega)) eq40 dX3_add_38 ?_
      refine lv_lload_n hx hb dX3_add_39 rfl (lv_at hl 4 rfl) ?_
      refine lv_ladd hx hb dX3_add_40 (lv_topl (fun wl42 _ => ?_))
      refine p_last (x := wl42) hx hb hK hw hS hW kd33 (by decide) rfl ln34 (vp_bv (by omega) (by omega)) dX3_add_41 (fun hp43 eh44 H locs hw hS => ?_)
      have ok45 := wr_32000 ok0 kd33 eh44
      have pd46 : NSx K ln hp43 gn := NSx_fr ok0  (show Fr [32000] K hp0 hp43 from (Fr.put (cq := 32000) (Fr.rf) eh44 kd33 (cd_a (by decide)) (by decide))) (by decide) pdNS
      have eq47 : hp43 qa900 6 = .int zi2 := Eq.trans (up_at eh44 (Or.inl (kd_ne kd900 kd33 (by decide)))) eq1
      rw [hQ]
      exact kz_v hx hb hr hlocks hS hp43 hw ⟨ok45, (Fr.put (cq := 32000) (Fr.rf) eh44 kd33 (cd_a (by decide)) (by decide)), (pd46), (by simp only [gi_of eq1, gi_of eq47]; omega)⟩ (Nat.le_of_ble_eq_true rfl) (Nat.le_of_ble_eq_true rfl) dX3_add_42

set_option maxRecDepth 100000 in
set_option maxHeartbeats 4000000 in
theorem cX3_add_vAM_0 (l : Launch) (G : va_G) (cy : Nat → ClassId) (ev : Ew) (K ln : Nat → Nat) (Ls : List Nat) (hW : SW K ln Ls) (sz : Nat) (hp0 : Nat → Nat → Value) (ok0 : Ok K hp0) (qa900 : Nat) (qa901 : Nat) (zi902 : Int32) (wl903 : Int64) (zi904 : Int32) (gn : Nat) (kd900 : K qa900 = 4) (kd901 : K qa901 = 8) (pdNS : NSx K ln hp0 gn) (xp0 : 131072 < 2 * gn) : Met l yX3_add (WS yX3_add cX3_add 7 none) { frames := 2, cells := 0, slots := 0, locals := 51 } (PB2 [.ref qa900, .ref qa901, .int zi902, .long wl903, .int zi904] sz G cy ev (va_pl Ls (cellOf cy K ln hp0))) (QBv (S := (Nat → Nat → Value)) (fun u : (Nat → Nat → Value) => Ok K u ∧ Fr [4006, 28000, 29000, 30000, 31000, 32000, 33000] K hp0 u ∧ (NSx K ln u gn) ∧ ((gi u qa900 6) ≥ (gi hp0 qa900 6))) G (fun u => va_pl Ls (cellOf cy K ln u)) (va_A (va_pl Ls (cellOf cy K ln hp0)) sz)) 0 0 (va_A (va_pl Ls (cellOf cy K ln hp0)) sz) := by
  refine met_of2 (y := yX3_add) (L := 7) (av := [.ref qa900, .ref qa901, .int zi902, .long wl903, .int zi904]) (Qc := fun A => QBv (S := (Nat → Nat → Value)) (fun u : (Nat → Nat → Value) => Ok K u ∧ Fr [4006, 28000, 29000, 30000, 31000, 32000, 33000] K hp0 u ∧ (NSx K ln u gn) ∧ ((gi u qa900 6) ≥ (gi hp0 qa900 6))) G (fun u => va_pl Ls (cellOf cy K ln u)) A) (plainFor_of_name (by decide)) (Nat.le_of_ble_eq_true rfl) ?_
  intro p e s m below meth c hsz hx hb hr hml hown hT hlocks hin hK A hA hE hw hS ls hl
  have hw : PW G cy K ln Ls A hp0 s.heap := hw
  have hown : s.vm.findClass "LieClock$Nodes" = some m.cls := hown
  have hl : lv_has ls 7 [(0, .ref qa900), (1, .ref qa901), (2, .int zi902), (3, .long wl903), (5, .int zi904)] := hl
  obtain ⟨Q, hQ⟩ : ∃ Q : State → Prop, Q = MQ below (QBv (S := (Nat → Nat → Value)) (fun u : (Nat → Nat → Value) => Ok K u ∧ Fr [4006, 28000, 29000, 30000, 31000, 32000, 33000] K hp0 u ∧ (NSx K ln u gn) ∧ ((gi u qa900 6) ≥ (gi hp0 qa900 6))) G (fun u => va_pl Ls (cellOf cy K ln u)) A) ([.ref qa900, .ref qa901, .int zi902, .long wl903, .int zi904] : List Value).toArray s 0 0 A := ⟨_, rfl⟩
  rw [← hQ]
  obtain ⟨zi2, eq1, bd3⟩ := rd_4006 ok0 kd900
  have nz4 := (pdNS).sz kd900 eq1
  have hgn := NSx.bd pdNS
  refine lv_aload_n hx hb dX3_add_0 rfl (lv_at hl 0 rfl) ?_
  refine lv_aload_n hx hb dX3_add_1 rfl (lv_at hl 1 rfl) ?_
  refine lv_iload hx hb dX3_add_2 (lv_at hl 4 rfl) ?_
  refine kq_i hw hS hA (va_runV (As := [.ref qa901, .int zi904]) (rest := []) ⟨hx, hb, hml, hown, hT⟩ (cX3_slotOf_0 l G cy ev K ln Ls hW _ hp0 ok0 qa900 qa901 zi904 gn kd900 kd901 pdNS) (cwV 2 hT (good_V tb_1146 tb_1143 tb_1145 tb_33 tb_117) rfl rfl rfl (by decide +kernel) ⟨Nat.le_of_ble_eq_true rfl, Nat.le_of_ble_eq_true rfl⟩) (pool_preV (ci := 3) hK hE hS hA hw hW kd900 (by decide) rfl) rfl rfl hl.1 rfl (lv_room (Nat.le_of_ble_eq_true rfl)) dX3_add_4 ⟨Nat.le_of_ble_eq_true rfl, Nat.le_of_ble_eq_true rfl⟩) (fun zi9 hp5 H locs hq8 hw hS => ?_)
  obtain ⟨ok6, F7, bd10, xq11, xq12⟩ := hq8
  obtain rfl : hp0 = hp5 := (Fr.nil F7).symm
  have hw : PW G cy K ln Ls A hp0 H := hw
  refine lv_istore (lv' := [(6, .int zi9), (0, .ref qa900), (1, .ref qa901), (2, .int zi902), (3, .long wl903), (5, .int zi904)]) hx hb dX3_add_7 hl (by decide) rfl (fun ls hl => ?_)
  refine lv_iload hx hb dX3_add_9 (lv_at hl 0 rfl) ?_
  refine lv_if_lt (tgt := 43) hx hb dX3_add_11 (by decide) (fun cn13 => ?_) (fun cn13 => ?_)
  · skip
    have bd14 : (-1 : Int) ≤ zi9.toInt ∧ zi9.toInt ≤ -1 := r_lt_x cn13 bd10 bc_0 (by decide) (by decide)
    refine lv_aload_n hx hb dX3_add_43 rfl (lv_at hl 1 rfl) ?_
    refine p_get (ci := 3) (v := .int zi2) (C := RX3) (T := TX3) (N := 7) hx hb hT iw_X3 hown hK hw hW kd900 (by decide) rfl rfl 6 (by decide) eq1 (hT _ tb_503) (fun _ h9 => h9) dX3_add_44 ?_
    refine lv_aload_n hx hb dX3_add_47 rfl (lv_at hl 1 rfl) ?_
    obtain ⟨qa16, eq15, kd17⟩ := rd_4000 ok0 kd900
    have ln18 := (pdNS).ref kd900 (by decide) eq15
    refine p_get (ci := 3) (v := .ref qa16) (C := RX3) (T := TX3) (N := 7) hx hb hT iw_X3 hown hK hw hW kd900 (by decide) rfl rfl 0 (by decide) eq15 (hT _ tb_492) (fun _ h9 => h9) dX3_add_48 ?_
    obtain ⟨zi19, ez20⟩ : ∃ z : Int32, Int32.ofNat (ln qa16) = z := ⟨_, rfl⟩
    refine p_alen (v := zi19) hx hb hK hw hW kd17 (by decide) rfl rfl ez20 dX3_add_51 ?_
    have hl21 : zi19.toInt = (gn : Nat) := by have h9 := ofNat_len ez20 (by rw [ln18]; omega); rw [ln18] at h9; exact h9
    have bd22 : (256 : Int) ≤ zi19.toInt ∧ zi19.toInt ≤ 131072 := (by omega)
    refine lv_icmp_lt (tgt := 68) hx hb dX3_add_52 (by decide) (fun cn23 => ?_) (fun cn23 => ?_)
    · skip
      have tf24 : zi2.toInt < zi19.toInt := (fa_lt _ _).mp cn23
      have bd25 : (0 : Int) ≤ zi2.toInt ∧ zi2.toInt ≤ 131071 := r_lt_x cn23 bd3 bd22 (by decide) (by decide)
      refine lv_iload hx hb dX3_add_68 (lv_at hl 0 rfl) ?_
      refine lv_if_lt (tgt := 85) hx hb dX3_add_70 (by decide) (fun _ => ?_) (fun c => absurd (d_lt bd14 bc_0 (by decide)) c)
      rw [hQ]
      exact kz_v hx hb hr hlocks hS hp0 hw ⟨ok0, (Fr.rf), (pdNS), (by simp only [gi_of eq1]; omega)⟩ (Nat.le_of_ble_eq_true rfl) (Nat.le_of_ble_eq_true rfl) dX3_add_85
    · skip
      have tf26 : zi19.toInt ≤ zi2.toInt := (fa_le _ _).mp (Int32.not_lt.mp cn23)
      have bd27 : (256 : Int) ≤ zi2.toInt ∧ zi2.toInt ≤ 131072 := r_le_y (Int32.not_lt.mp cn23) bd22 bd3 (by decide) (by decide)
      refine lv_aload_n hx hb dX3_add_55 rfl (lv_at hl 1 rfl) ?_
      refine kq_v hw hS hA (va_runV (As := []) (rest := []) ⟨hx, hb, hml, hown, hT⟩ (cX3_grow_vGM_0 l G cy ev K ln Ls hW _ hp0 ok0 qa900 gn kd900 pdNS xp0) (cwV 0 hT (good_V tb_1159 tb_1156 tb_1158 tb_34 tb_117) rfl rfl rfl (by decide +kernel) ⟨Nat.le_of_ble_eq_true rfl, Nat.le_of_ble_eq_true rfl⟩) (pool_preV (ci := 3) hK hE hS hA hw hW kd900 (by decide) rfl) rfl rfl hl.1 rfl (lv_room (Nat.le_of_ble_eq_true rfl)) dX3_add_56 ⟨Nat.le_of_ble_eq_true rfl, Nat.le_of_ble_eq_true rfl⟩) (fun hp28 H locs hq31 hw hS => ?_)
      obtain ⟨ok29, F30⟩ := hq31
      obtain rfl : hp0 = hp28 := (Fr.nil F30).symm
      have hw : PW G cy K ln Ls A hp0 H := hw
      refine lv_aload_n hx hb dX3_add_59 rfl (lv_at hl 1 rfl) ?_
      refine lv_aload_n hx hb dX3_add_60 rfl (lv_at hl 2 rfl) ?_
      refine lv_iload hx hb dX3_add_61 (lv_at hl 5 rfl) ?_
      refine kq_i hw hS hA (va_runV (As := [.ref qa901, .int zi904]) (rest := []) ⟨hx, hb, hml, hown, hT⟩ (cX3_slotOf_0 l G cy ev K ln Ls hW _ hp0 ok0 qa900 qa901 zi904 gn kd900 kd901 pdNS) (cwV 2 hT (good_V tb_1146 tb_1143 tb_1145 tb_33 tb_117) rfl rfl rfl (by decide +kernel) ⟨Nat.le_of_ble_eq_true rfl, Nat.le_of_ble_eq_true rfl⟩) (pool_preV (ci := 3) hK hE hS hA hw hW kd900 (by decide) rfl) rfl rfl hl.1 rfl (lv_room (Nat.le_of_ble_eq_true rfl)) dX3_add_63 ⟨Nat.le_of_ble_eq_true rfl, Nat.le_of_ble_eq_true rfl⟩) (fun zi37 hp33 H locs hq36 hw hS => ?_)
      obtain ⟨ok34, F35, bd38, xq39, xq40⟩ := hq36
      obtain rfl : hp0 = hp33 := (Fr.nil F35).symm
      have hw : PW G cy K ln Ls A hp0 H := hw
      refine lv_istore (lv' := [(6, .int zi37), (0, .ref qa900), (1, .ref qa901), (2, .int zi902), (3, .long wl903), (5, .int zi904)]) hx hb dX3_add_66 hl (by decide) rfl (fun ls hl => ?_)
      refine lv_iload hx hb dX3_add_68 (lv_at hl 0 rfl) ?_
      refine lv_if_lt (tgt := 85) hx hb dX3_add_70 (by decide) (fun cn41 => ?_) (fun cn41 => ?_)
      · skip
        have bd42 : (-1 : Int) ≤ zi37.toInt ∧ zi37.toInt ≤ -1 := r_lt_x cn41 bd38 bc_0 (by decide) (by decide)
        rw [hQ]
        exact kz_v hx hb hr hlocks hS hp0 hw ⟨ok0, (Fr.rf), (pdNS), (by simp only [gi_of eq1]; omega)⟩ (Nat.le_of_ble_eq_true rfl) (Nat.le_of_ble_eq_true rfl) dX3_add_85
      · skip
        have bd43 : (0 : Int) ≤ zi37.toInt ∧ zi37.toInt ≤ 262143 := r_le_y (Int32.not_lt.mp cn41) bc_0 bd38 (by decide) (by decide)
        refine lv_aload_n hx hb dX3_add_73 rfl (lv_at hl 1 rfl) ?_
        refine p_get (ci := 3) (v := .int zi2) (C := RX3) (T := TX3) (N := 7) hx hb hT iw_X3 hown hK hw hW kd900 (by decide) rfl rfl 6 (by decide) eq1 (hT _ tb_503) (fun _ h9 => h9) dX3_add_74 ?_
        refine lv_aload_n hx hb dX3_add_77 rfl (lv_at hl 1 rfl) ?_
        refine p_get (ci := 3) (v := .ref qa16) (C := RX3) (T := TX3) (N := 7) hx hb hT iw_X3 hown hK hw hW kd900 (by decide) rfl rfl 0 (by decide) eq15 (hT _ tb_492) (fun _ h9 => h9) dX3_add_78 ?_
        obtain ⟨zi44, ez45⟩ : ∃ z : Int32, Int32.ofNat (ln qa16) = z := ⟨_, rfl⟩
        refine p_alen (v := zi44) hx hb hK hw hW kd17 (by decide) rfl rfl ez45 dX3_add_81 ?_
        have hl46 : zi44.toInt = (gn : Nat) := by have h9 := ofNat_len ez45 (by rw [ln18]; omega); rw [ln18] at h9; exact h9
        have bd47 : (256 : Int) ≤ zi44.toInt ∧ zi44.toInt ≤ 131072 := (by omega)
        refine lv_icmp_lt (tgt := 86) hx hb dX3_add_82 (by decide) (fun cn48 => ?_) (fun cn48 => ?_)
        · skip
          have tf49 : zi2.toInt < zi44.toInt := (fa_lt _ _).mp cn48
          have bd50 : (256 : Int) ≤ zi2.toInt ∧ zi2.toInt ≤ 131071 := r_lt_x cn48 bd27 bd47 (by decide) (by decide)
          have bd51 : (257 : Int) ≤ zi44.toInt ∧ zi44.toInt ≤ 131072 := r_lt_y cn48 bd27 bd47 (by decide) (by decide)
          refine lv_aload_n hx hb dX3_add_86 rfl (lv_at hl 1 rfl) ?_
          refine p_get (ci := 3) (v := .ref qa16) (C := RX3) (T := TX3) (N := 7) hx hb hT iw_X3 hown hK hw hW kd900 (by decide) rfl rfl 0 (by decide) eq15 (hT _ tb_492) (fun _ h9 => h9) dX3_add_87 ?_
          refine lv_aload_n hx hb dX3_add_90 rfl (lv_at hl 1 rfl) ?_
          refine p_get (ci := 3) (v := .int zi2) (C := RX3) (T := TX3) (N := 7) hx hb hT iw_X3 hown hK hw hW kd900 (by decide) rfl rfl 6 (by decide) eq1 (hT _ tb_503) (fun _ h9 => h9) dX3_add_91 ?_
          refine lv_aload_n hx hb dX3_add_94 rfl (lv_at hl 2 rfl) ?_
          refine kq_i hw hS hA (va_runS (As := [.ref qa901]) (rest := [.int zi2, .ref qa16]) ⟨hx, hb, hml, hown, hT⟩ (cX3_packed_0 l G cy ev K ln Ls hW _ hp0 ok0 qa901 kd901) (va_cwS 1 hT (good_S tb_1149 tb_1147 tb_1148 tb_117) rfl rfl rfl (by decide +kernel) ⟨Nat.le_of_ble_eq_true rfl, Nat.le_of_ble_eq_true rfl⟩) (PB2.preS hK hE hS hA hw) rfl rfl hl.1 rfl (lv_room (Nat.le_of_ble_eq_true rfl)) dX3_add_95 ⟨Nat.le_of_ble_eq_true rfl, Nat.le_of_ble_eq_true rfl⟩) (fun zi56 hp52 H locs hq55 hw hS => ?_)
          obtain ⟨ok53, F54, xq57⟩ := hq55
          obtain rfl : hp0 = hp52 := (Fr.nil F54).symm
          have hw : PW G cy K ln Ls A hp0 H := hw
          refine p_iast (x := zi56) hx hb hK hw hS hW kd17 (by decide) rfl ln18 (vp_bv (by omega) (by omega)) dX3_add_98 (fun hp58 eh59 H locs hw hS => ?_)
          have ok60 := wr_28000 ok0 kd17 eh59
          refine lv_aload_n hx hb dX3_add_99 rfl (lv_at hl 1 rfl) ?_
          obtain ⟨qa62, eq61, kd63⟩ := rd_4001 ok60 kd900
          have pd64 : NSx K ln hp58 gn := NSx_fr ok0  (show Fr [28000] K hp0 hp58 from (Fr.put (cq := 28000) (Fr.rf) eh59 kd17 (cd_a (by decide)) (by decide))) (by decide) pdNS
          have ln65 := (pd64).ref kd900 (by decide) eq61
          refine p_get (ci := 3) (v := .ref qa62) (C := RX3) (T := TX3) (N := 7) hx hb hT iw_X3 hown hK hw hW kd900 (by decide) rfl rfl 1 (by decide) eq61 (hT _ tb_495) (fun _ h9 => h9) dX3_add_100 ?_
          refine lv_aload_n hx hb dX3_add_103 rfl (lv_at hl 1 rfl) ?_
          have eq66 : hp58 qa900 6 = .int zi2 := Eq.trans (up_at eh59 (Or.inl (kd_ne kd900 kd17 (by decide)))) eq1
          refine p_get (ci := 3) (v := .int zi2) (C := RX3) (T := TX3) (N := 7) hx hb hT iw_X3 hown hK hw hW kd900 (by decide) rfl rfl 6 (by decide) eq66 (hT _ tb_503) (fun _ h9 => h9) dX3_add_104 ?_
          refine lv_aload_n hx hb dX3_add_107 rfl (lv_at hl 2 rfl) ?_
          obtain ⟨zi68, eq67⟩ := rd_8000 ok60 kd901
          refine p_getN (ci := 7) (v := .int zi68) (C := RX7) (T := TX7) (N := 13) hx hb hT iw_X7 hown hK hw hW kd901 (by decide) rfl rfl 0 (by decide) eq67 (hK.fl nw_308) (fun _ h9 => h9) dX3_add_108 ?_
          refine p_iast (x := zi68) hx hb hK hw hS hW kd63 (by decide) rfl ln65 (vp_bv (by omega) (by omega)) dX3_add_111 (fun hp69 eh70 H locs hw hS => ?_)
          have ok71 := wr_29000 ok60 kd63 eh70
          refine lv_aload_n hx hb dX3_add_112 rfl (lv_at hl 1 rfl) ?_
          obtain ⟨qa73, eq72, kd74⟩ := rd_4002 ok71 kd900
          have pd75 : NSx K ln hp69 gn := NSx_fr ok60  (show Fr [29000] K hp58 hp69 from (Fr.put (cq := 29000) (Fr.rf) eh70 kd63 (cd_a (by decide)) (by decide))) (by decide) pd64
          have ln76 := (pd75).ref kd900 (by decide) eq72
          refine p_get (ci := 3) (v := .ref qa73) (C := RX3) (T := TX3) (N := 7) hx hb hT iw_X3 hown hK hw hW kd900 (by decide) rfl rfl 2 (by decide) eq72 (hT _ tb_497) (fun _ h9 => h9) dX3_add_113 ?_
          refine lv_aload_n hx hb dX3_add_116 rfl (lv_at hl 1 rfl) ?_
          have eq77 : hp69 qa900 6 = .int zi2 := Eq.trans (up_at eh70 (Or.inl (kd_ne kd900 kd63 (by decide)))) eq66
          refine p_get (ci := 3) (v := .int zi2) (C := RX3) (T := TX3) (N := 7) hx hb hT iw_X3 hown hK hw hW kd900 (by decide) rfl rfl 6 (by decide) eq77 (hT _ tb_503) (fun _ h9 => h9) dX3_add_117 ?_
          refine lv_aload_n hx hb dX3_add_120 rfl (lv_at hl 2 rfl) ?_
          obtain ⟨zi79, eq78⟩ := rd_8004 ok71 kd901
          refine p_getN (ci := 7) (v := .int zi79) (C := RX7) (T := TX7) (N := 13) hx hb hT iw_X7 hown hK hw hW kd901 (by decide) rfl rfl 4 (by decide) eq78 (hK.fl nw_323) (fun _ h9 => h9) dX3_add_121 ?_
          refine p_iast (x := zi79) hx hb hK hw hS hW kd74 (by decide) rfl ln76 (vp_bv (by omega) (by omega)) dX3_add_124 (fun hp80 eh81 H locs hw hS => ?_)
          have ok82 := wr_30000 ok71 kd74 eh81
          refine lv_aload_n hx hb dX3_add_125 rfl (lv_at hl 1 rfl) ?_
          obtain ⟨qa84, eq83, kd85⟩ := rd_4003 ok82 kd900
          have pd86 : NSx K ln hp80 gn := NSx_fr ok71  (show Fr [30000] K hp69 hp80 from (Fr.put (cq := 30000) (Fr.rf) eh81 kd74 (cd_a (by decide)) (by decide))) (by decide) pd75
          have ln87 := (pd86).ref kd900 (by decide) eq83
          refine p_get (ci := 3) (v := .ref qa84) (C := RX3) (T := TX3) (N := 7) hx hb hT iw_X3 hown hK hw hW kd900 (by decide) rfl rfl 3 (by decide) eq83 (hT _ tb_498) (fun _ h9 => h9) dX3_add_126 ?_
          refine lv_aload_n hx hb dX3_add_129 rfl (lv_at hl 1 rfl) ?_
          have eq88 : hp80 qa900 6 = .int zi2 := Eq.trans (up_at eh81 (Or.inl (kd_ne kd900 kd74 (by decide)))) eq77
          refine p_get (ci := 3) (v := .int zi2) (C := RX3) (T := TX3) (N := 7) hx hb hT iw_X3 hown hK hw hW kd900 (by decide) rfl rfl 6 (by decide) eq88 (hT _ tb_503) (fun _ h9 => h9) dX3_add_130 ?_
          refine lv_iload_n hx hb dX3_add_133 rfl (lv_at hl 3 rfl) ?_
          refine p_iast (x := zi902) hx hb hK hw hS hW kd85 (by decide) rfl ln87 (vp_bv (by omega) (by omega)) dX3_add_134 (fun hp89 eh90 H locs hw hS => ?_)
          have ok91 := wr_31000 ok82 kd85 eh90
          refine lv_aload_n hx hb dX3_add_135 rfl (lv_at hl 1 rfl) ?_
          obtain ⟨qa93, eq92, kd94⟩ := rd_4004 ok91 kd900
          have pd95 : NSx K ln hp89 gn := NSx_fr ok82  (show Fr [31000] K hp80 hp89 from (Fr.put (cq := 31000) (Fr.rf) eh90 kd85 (cd_a (by decide)) (by decide))) (by decide) pd86
          have ln96 := (pd95).ref kd900 (by decide) eq92
          refine p_get (ci := 3) (v := .ref qa93) (C := RX3) (T := TX3) (N := 7) hx hb hT iw_X3 hown hK hw hW kd900 (by decide) rfl rfl 4 (by decide) eq92 (hT _ tb_500) (fun _ h9 => h9) dX3_add_136 ?_
          refine lv_aload_n hx hb dX3_add_139 rfl (lv_at hl 1 rfl) ?_
          have eq97 : hp89 qa900 6 = .int zi2 := Eq.trans (up_at eh90 (Or.inl (kd_ne kd900 kd85 (by decide)))) eq88
          refine p_get (ci := 3) (v := .int zi2) (C := RX3) (T := TX3) (N := 7) hx hb hT iw_X3 hown hK hw hW kd900 (by decide) rfl rfl 6 (by decide) eq97 (hT _ tb_503) (fun _ h9 => h9) dX3_add_140 ?_
          refine lv_lload_n hx hb dX3_add_143 rfl (lv_at hl 4 rfl) ?_
          refine p_last (x := wl903) hx hb hK hw hS hW kd94 (by decide) rfl ln96 (vp_bv (by omega) (by omega)) dX3_add_144 (fun hp98 eh99 H locs hw hS => ?_)
          have ok100 := wr_32000 ok91 kd94 eh99
          refine lv_aload_n hx hb dX3_add_145 rfl (lv_at hl 1 rfl) ?_
          refine lv_dup hx hb dX3_add_146 rfl ?_
          have eq101 : hp98 qa900 6 = .int zi2 := Eq.trans (up_at eh99 (Or.inl (kd_ne kd900 kd94 (by decide)))) eq97
          refine p_get (ci := 3) (v := .int zi2) (C := RX3) (T := TX3) (N := 7) hx hb hT iw_X3 hown hK hw hW kd900 (by decide) rfl rfl 6 (by decide) eq101 (hT _ tb_503) (fun _ h9 => h9) dX3_add_147 ?_
          refine lv_iconst (v := 1) hx hb dX3_add_150 (by decide) ?_
          refine lv_iadd hx hb dX3_add_151 (lv_topi (fun zi102 ea103 => ?_))
          have bd104 : (257 : Int) ≤ zi102.toInt ∧ zi102.toInt ≤ 131072 := b_iadd ea103 bd50 bc_1 (by decide) (by decide) (by decide) (by decide)
          have qe105 : zi102.toInt = (zi2 : Int32).toInt + (1 : Int32).toInt := e_iadd ea103 bd50 bc_1 (by decide) (by decide)
          have qe106 : zi102.toInt = zi2.toInt + 1 := by have ha : (1 : Int32).toInt = 1 := (by decide); rw [ha] at qe105; exact qe105
          have pd107 : NSx K ln hp98 gn := NSx_fr ok91  (show Fr [32000] K hp89 hp98 from (Fr.put (cq := 32000) (Fr.rf) eh99 kd94 (cd_a (by decide)) (by decide))) (by decide) pd95
          refine p_put (ci := 3) (v := .int zi102) (ty := .int) (C := RX3) (T := TX3) (N := 7) hx hb hT iw_X3 tyX3 tyX3_ok nmX3 hown hK hw hS hW kd900 (by decide) rfl rfl 6 (by decide) (hT _ tb_503) (fun _ h9 => h9) rfl (by decide +kernel) rfl rfl dX3_add_152 (fun hp108 eh109 H locs hw hS => ?_)
          have ok110 := wr_4006 bd104 (by decide) (by decide) ok100 kd900 eh109
          have ns111 : NSx K ln hp108 gn := NSx_size pd107 eh109 kd900 (by omega) ok100
          refine lv_aload_n hx hb dX3_add_155 rfl (lv_at hl 1 rfl) ?_
          obtain ⟨qa113, eq112, kd114⟩ := rd_4005 ok110 kd900
          have ln115 := (ns111).tab kd900 eq112
          refine p_get (ci := 3) (v := .ref qa113) (C := RX3) (T := TX3) (N := 7) hx hb hT iw_X3 hown hK hw hW kd900 (by decide) rfl rfl 5 (by decide) eq112 (hT _ tb_502) (fun _ h9 => h9) dX3_add_156 ?_
          refine lv_iload hx hb dX3_add_159 (lv_at hl 0 rfl) ?_
          refine lv_aload_n hx hb dX3_add_161 rfl (lv_at hl 1 rfl) ?_
          refine p_get (ci := 3) (v := .int zi102) (C := RX3) (T := TX3) (N := 7) hx hb hT iw_X3 hown hK hw hW kd900 (by decide) rfl rfl 6 (by decide) (hp_self eh109) (hT _ tb_503) (fun _ h9 => h9) dX3_add_162 ?_
          refine p_iast (x := zi102) hx hb hK hw hS hW kd114 (by decide) rfl ln115 (vp_bv (by omega) (by omega)) dX3_add_165 (fun hp116 eh117 H locs hw hS => ?_)
          have ok118 := wr_33000 bd104 (by decide) (by decide) ok110 kd114 eh117
          have ns119 : NSx K ln hp116 gn := NSx_tab ns111 kd114 eh117 (by omega)
          have eq120 : hp116 qa900 6 = .int zi102 := Eq.trans (up_at eh117 (Or.inl (kd_ne kd900 kd114 (by decide)))) (hp_self eh109)
          rw [hQ]
          exact kz_v hx hb hr hlocks hS hp116 hw ⟨ok118, (Fr.put (cq := 33000) (Fr.put (cq := 4006) (Fr.put (cq := 32000) (Fr.put (cq := 31000) (Fr.put (cq := 30000) (Fr.put (cq := 29000) (Fr.put (cq := 28000) (Fr.rf) eh59 kd17 (cd_a (by decide)) (by decide)) eh70 kd63 (cd_a (by decide)) (by decide)) eh81 kd74 (cd_a (by decide)) (by decide)) eh90 kd85 (cd_a (by decide)) (by decide)) eh99 kd94 (cd_a (by decide)) (by decide)) eh109 kd900 (cd_o (by decide)) (by decide)) eh117 kd114 (cd_a (by decide)) (by decide)), (ns119), (by simp only [gi_of eq1, gi_of eq120]; omega)⟩ (Nat.le_of_ble_eq_true rfl) (Nat.le_of_ble_eq_true rfl) dX3_add_166
        · skip
          have tf121 : zi44.toInt ≤ zi2.toInt := (fa_le _ _).mp (Int32.not_lt.mp cn48)
          rw [hQ]
          exact kz_v hx hb hr hlocks hS hp0 hw ⟨ok0, (Fr.rf), (pdNS), (by simp only [gi_of eq1]; omega)⟩ (Nat.le_of_ble_eq_true rfl) (Nat.le_of_ble_eq_true rfl) dX3_add_85
  · skip
    have bd122 : (0 : Int) ≤ zi9.toInt ∧ zi9.toInt ≤ 262143 := r_le_y (Int32.not_lt.mp cn13) bc_0 bd10 (by decide) (by decide)
    refine lv_aload_n hx hb dX3_add_14 rfl (lv_at hl 1 rfl) ?_
    obtain ⟨qa124, eq123, kd125⟩ := rd_4005 ok0 kd900
    have ln126 := (pdNS).tab kd900 eq123
    refine p_get (ci := 3) (v := .ref qa124) (C := RX3) (T := TX3) (N := 7) hx hb hT iw_X3 hown hK hw hW kd900 (by decide) rfl rfl 5 (by decide) eq123 (hT _ tb_502) (fun _ h9 => h9) dX3_add_15 ?_
    refine lv_iload hx hb dX3_add_18 (lv_at hl 0 rfl) ?_
    obtain ⟨zi128, eq127, bd129⟩ := rd_33000 ok0 kd125 ((zi9 : Int32).toNatClampNeg)
    have nz130 := (pdNS).elt kd900 eq123 (vp_bv (by omega) (by omega)) eq127
    refine p_iald (v := zi128) hx hb hK hw hW kd125 (by decide) rfl ln126 (vp_bv (by omega) (by omega)) eq127 dX3_add_20 ?_
    refine lv_if_le (tgt := 43) hx hb dX3_add_21 (by decide) (fun cn131 => ?_) (fun cn131 => ?_)
    · skip
      have bd132 : (0 : Int) ≤ zi128.toInt ∧ zi128.toInt ≤ 0 := r_le_x cn131 bd129 bc_0 (by decide) (by decide)
      refine lv_aload_n hx hb dX3_add_43 rfl (lv_at hl 1 rfl) ?_
      refine p_get (ci := 3) (v := .int zi2) (C := RX3) (T := TX3) (N := 7) hx hb hT iw_X3 hown hK hw hW kd900 (by decide) rfl rfl 6 (by decide) eq1 (hT _ tb_503) (fun _ h9 => h9) dX3_add_44 ?_
      refine lv_aload_n hx hb dX3_add_47 rfl (lv_at hl 1 rfl) ?_
      obtain ⟨qa134, eq133, kd135⟩ := rd_4000 ok0 kd900
      have ln136 := (pdNS).ref kd900 (by decide) eq133
      refine p_get (ci := 3) (v := .ref qa134) (C := RX3) (T := TX3) (N := 7) hx hb hT iw_X3 hown hK hw hW kd900 (by decide) rfl rfl 0 (by decide) eq133 (hT _ tb_492) (fun _ h9 => h9) dX3_add_48 ?_
      obtain ⟨zi137, ez138⟩ : ∃ z : Int32, Int32.ofNat (ln qa134) = z := ⟨_, rfl⟩
      refine p_alen (v := zi137) hx hb hK hw hW kd135 (by decide) rfl rfl ez138 dX3_add_51 ?_
      have hl139 : zi137.toInt = (gn : Nat) := by have h9 := ofNat_len ez138 (by rw [ln136]; omega); rw [ln136] at h9; exact h9
      have bd140 : (256 : Int) ≤ zi137.toInt ∧ zi137.toInt ≤ 131072 := (by omega)
      refine lv_icmp_lt (tgt := 68) hx hb dX3_add_52 (by decide) (fun cn141 => ?_) (fun cn141 => ?_)
      · skip
        have tf142 : zi2.toInt < zi137.toInt := (fa_lt _ _).mp cn141
        have bd143 : (0 : Int) ≤ zi2.toInt ∧ zi2.toInt ≤ 131071 := r_lt_x cn141 bd3 bd140 (by decide) (by decide)
        refine lv_iload hx hb dX3_add_68 (lv_at hl 0 rfl) ?_
        refine lv_if_lt (tgt := 85) hx hb dX3_add_70 (by decide) (fun c => absurd c (d_nlt bd122 bc_0 (by decide))) (fun _ => ?_)
        refine lv_aload_n hx hb dX3_add_73 rfl (lv_at hl 1 rfl) ?_
        refine p_get (ci := 3) (v := .int zi2) (C := RX3) (T := TX3) (N := 7) hx hb hT iw_X3 hown hK hw hW kd900 (by decide) rfl rfl 6 (by decide) eq1 (hT _ tb_503) (fun _ h9 => h9) dX3_add_74 ?_
        refine lv_aload_n hx hb dX3_add_77 rfl (lv_at hl 1 rfl) ?_
        refine p_get (ci := 3) (v := .ref qa134) (C := RX3) (T := TX3) (N := 7) hx hb hT iw_X3 hown hK hw hW kd900 (by decide) rfl rfl 0 (by decide) eq133 (hT _ tb_492) (fun _ h9 => h9) dX3_add_78 ?_
        obtain ⟨zi144, ez145⟩ : ∃ z : Int32, Int32.ofNat (ln qa134) = z := ⟨_, rfl⟩
        refine p_alen (v := zi144) hx hb hK hw hW kd135 (by decide) rfl rfl ez145 dX3_add_81 ?_
        have hl146 : zi144.toInt = (gn : Nat) := by have h9 := ofNat_len ez145 (by rw [ln136]; omega); rw [ln136] at h9; exact h9
        have bd147 : (256 : Int) ≤ zi144.toInt ∧ zi144.toInt ≤ 131072 := (by omega)
        refine lv_icmp_lt (tgt := 86) hx hb dX3_add_82 (by decide) (fun cn148 => ?_) (fun cn148 => ?_)
        · skip
          have tf149 : zi2.toInt < zi144.toInt := (fa_lt _ _).mp cn148
          refine lv_aload_n hx hb dX3_add_86 rfl (lv_at hl 1 rfl) ?_
          refine p_get (ci := 3) (v := .ref qa134) (C := RX3) (T := TX3) (N := 7) hx hb hT iw_X3 hown hK hw hW kd900 (by decide) rfl rfl 0 (by decide) eq133 (hT _ tb_492) (fun _ h9 => h9) dX3_add_87 ?_
          refine lv_aload_n hx hb dX3_add_90 rfl (lv_at hl 1 rfl) ?_
          refine p_get (ci := 3) (v := .int zi2) (C := RX3) (T := TX3) (N := 7) hx hb hT iw_X3 hown hK hw hW kd900 (by decide) rfl rfl 6 (by decide) eq1 (hT _ tb_503) (fun _ h9 => h9) dX3_add_91 ?_
          refine lv_aload_n hx hb dX3_add_94 rfl (lv_at hl 2 rfl) ?_
          refine kq_i hw hS hA (va_runS (As := [.ref qa901]) (rest := [.int zi2, .ref qa134]) ⟨hx, hb, hml, hown, hT⟩ (cX3_packed_0 l G cy ev K ln Ls hW _ hp0 ok0 qa901 kd901) (va_cwS 1 hT (good_S tb_1149 tb_1147 tb_1148 tb_117) rfl rfl rfl (by decide +kernel) ⟨Nat.le_of_ble_eq_true rfl, Nat.le_of_ble_eq_true rfl⟩) (PB2.preS hK hE hS hA hw) rfl rfl hl.1 rfl (lv_room (Nat.le_of_ble_eq_true rfl)) dX3_add_95 ⟨Nat.le_of_ble_eq_true rfl, Nat.le_of_ble_eq_true rfl⟩) (fun zi154 hp150 H locs hq153 hw hS => ?_)
          obtain ⟨ok151, F152, xq155⟩ := hq153
          obtain rfl : hp0 = hp150 := (Fr.nil F152).symm
          have hw : PW G cy K ln Ls A hp0 H := hw
          refine p_iast (x := zi154) hx hb hK hw hS hW kd135 (by decide) rfl ln136 (vp_bv (by omega) (by omega)) dX3_add_98 (fun hp156 eh157 H locs hw hS => ?_)
          have ok158 := wr_28000 ok0 kd135 eh157
          refine lv_aload_n hx hb dX3_add_99 rfl (lv_at hl 1 rfl) ?_
          obtain ⟨qa160, eq159, kd161⟩ := rd_4001 ok158 kd900
          have pd162 : NSx K ln hp156 gn := NSx_fr ok0  (show Fr [28000] K hp0 hp156 from (Fr.put (cq := 28000) (Fr.rf) eh157 kd135 (cd_a (by decide)) (by decide))) (by decide) pdNS
          have ln163 := (pd162).ref kd900 (by decide) eq159
          refine p_get (ci := 3) (v := .ref qa160) (C := RX3) (T := TX3) (N := 7) hx hb hT iw_X3 hown hK hw hW kd900 (by decide) rfl rfl 1 (by decide) eq159 (hT _ tb_495) (fun _ h9 => h9) dX3_add_100 ?_
          refine lv_aload_n hx hb dX3_add_103 rfl (lv_at hl 1 rfl) ?_
          have eq164 : hp156 qa900 6 = .int zi2 := Eq.trans (up_at eh157 (Or.inl (kd_ne kd900 kd135 (by decide)))) eq1
          refine p_get (ci := 3) (v := .int zi2) (C := RX3) (T := TX3) (N := 7) hx hb hT iw_X3 hown hK hw hW kd900 (by decide) rfl rfl 6 (by decide) eq164 (hT _ tb_503) (fun _ h9 => h9) dX3_add_104 ?_
          refine lv_aload_n hx hb dX3_add_107 rfl (lv_at hl 2 rfl) ?_
          obtain ⟨zi166, eq165⟩ := rd_8000 ok158 kd901
          refine p_getN (ci := 7) (v := .int zi166) (C := RX7) (T := TX7) (N := 13) hx hb hT iw_X7 hown hK hw hW kd901 (by decide) rfl rfl 0 (by decide) eq165 (hK.fl nw_308) (fun _ h9 => h9) dX3_add_108 ?_
          refine p_iast (x := zi166) hx hb hK hw hS hW kd161 (by decide) rfl ln163 (vp_bv (by omega) (by omega)) dX3_add_111 (fun hp167 eh168 H locs hw hS => ?_)
          have ok169 := wr_29000 ok158 kd161 eh168
          refine lv_aload_n hx hb dX3_add_112 rfl (lv_at hl 1 rfl) ?_
          obtain ⟨qa171, eq170, kd172⟩ := rd_4002 ok169 kd900
          have pd173 : NSx K ln hp167 gn := NSx_fr ok158  (show Fr [29000] K hp156 hp167 from (Fr.put (cq := 29000) (Fr.rf) eh168 kd161 (cd_a (by decide)) (by decide))) (by decide) pd162
          have ln174 := (pd173).ref kd900 (by decide) eq170
          refine p_get (ci := 3) (v := .ref qa171) (C := RX3) (T := TX3) (N := 7) hx hb hT iw_X3 hown hK hw hW kd900 (by decide) rfl rfl 2 (by decide) eq170 (hT _ tb_497) (fun _ h9 => h9) dX3_add_113 ?_
          refine lv_aload_n hx hb dX3_add_116 rfl (lv_at hl 1 rfl) ?_
          have eq175 : hp167 qa900 6 = .int zi2 := Eq.trans (up_at eh168 (Or.inl (kd_ne kd900 kd161 (by decide)))) eq164
          refine p_get (ci := 3) (v := .int zi2) (C := RX3) (T := TX3) (N := 7) hx hb hT iw_X3 hown hK hw hW kd900 (by decide) rfl rfl 6 (by decide) eq175 (hT _ tb_503) (fun _ h9 => h9) dX3_add_117 ?_
          refine lv_aload_n hx hb dX3_add_120 rfl (lv_at hl 2 rfl) ?_
          obtain ⟨zi177, eq176⟩ := rd_8004 ok169 kd901
          refine p_getN (ci := 7) (v := .int zi177) (C := RX7) (T := TX7) (N := 13) hx hb hT iw_X7 hown hK hw hW kd901 (by decide) rfl rfl 4 (by decide) eq176 (hK.fl nw_323) (fun _ h9 => h9) dX3_add_121 ?_
          refine p_iast (x := zi177) hx hb hK hw hS hW kd172 (by decide) rfl ln174 (vp_bv (by omega) (by omega)) dX3_add_124 (fun hp178 eh179 H locs hw hS => ?_)
          have ok180 := wr_30000 ok169 kd172 eh179
          refine lv_aload_n hx hb dX3_add_125 rfl (lv_at hl 1 rfl) ?_
          obtain ⟨qa182, eq181, kd183⟩ := rd_4003 ok180 kd900
          have pd184 : NSx K ln hp178 gn := NSx_fr ok169  (show Fr [30000] K hp167 hp178 from (Fr.put (cq := 30000) (Fr.rf) eh179 kd172 (cd_a (by decide)) (by decide))) (by decide) pd173
          have ln185 := (pd184).ref kd900 (by decide) eq181
          refine p_get (ci := 3) (v := .ref qa182) (C := RX3) (T := TX3) (N := 7) hx hb hT iw_X3 hown hK hw hW kd900 (by decide) rfl rfl 3 (by decide) eq181 (hT _ tb_498) (fun _ h9 => h9) dX3_add_126 ?_
          refine lv_aload_n hx hb dX3_add_129 rfl (lv_at hl 1 rfl) ?_
          have eq186 : hp178 qa900 6 = .int zi2 := Eq.trans (up_at eh179 (Or.inl (kd_ne kd900 kd172 (by decide)))) eq175
          refine p_get (ci := 3) (v := .int zi2) (C := RX3) (T := TX3) (N := 7) hx hb hT iw_X3 hown hK hw hW kd900 (by decide) rfl rfl 6 (by decide) eq186 (hT _ tb_503) (fun _ h9 => h9) dX3_add_130 ?_
          refine lv_iload_n hx hb dX3_add_133 rfl (lv_at hl 3 rfl) ?_
          refine p_iast (x := zi902) hx hb hK hw hS hW kd183 (by decide) rfl ln185 (vp_bv (by omega) (by omega)) dX3_add_134 (fun hp187 eh188 H locs hw hS => ?_)
          have ok189 := wr_31000 ok180 kd183 eh188
          refine lv_aload_n hx hb dX3_add_135 rfl (lv_at hl 1 rfl) ?_
          obtain ⟨qa191, eq190, kd192⟩ := rd_4004 ok189 kd900
          have pd193 : NSx K ln hp187 gn := NSx_fr ok180  (show Fr [31000] K hp178 hp187 from (Fr.put (cq := 31000) (Fr.rf) eh188 kd183 (cd_a (by decide)) (by decide))) (by decide) pd184
          have ln194 := (pd193).ref kd900 (by decide) eq190
          refine p_get (ci := 3) (v := .ref qa191) (C := RX3) (T := TX3) (N := 7) hx hb hT iw_X3 hown hK hw hW kd900 (by decide) rfl rfl 4 (by decide) eq190 (hT _ tb_500) (fun _ h9 => h9) dX3_add_136 ?_
          refine lv_aload_n hx hb dX3_add_139 rfl (lv_at hl 1 rfl) ?_
          have eq195 : hp187 qa900 6 = .int zi2 := Eq.trans (up_at eh188 (Or.inl (kd_ne kd900 kd183 (by decide)))) eq186
          refine p_get (ci := 3) (v := .int zi2) (C := RX3) (T := TX3) (N := 7) hx hb hT iw_X3 hown hK hw hW kd900 (by decide) rfl rfl 6 (by decide) eq195 (hT _ tb_503) (fun _ h9 => h9) dX3_add_140 ?_
          refine lv_lload_n hx hb dX3_add_143 rfl (lv_at hl 4 rfl) ?_
          refine p_last (x := wl903) hx hb hK hw hS hW kd192 (by decide) rfl ln194 (vp_bv (by omega) (by omega)) dX3_add_144 (fun hp196 eh197 H locs hw hS => ?_)
          have ok198 := wr_32000 ok189 kd192 eh197
          refine lv_aload_n hx hb dX3_add_145 rfl (lv_at hl 1 rfl) ?_
          refine lv_dup hx hb dX3_add_146 rfl ?_
          have eq199 : hp196 qa900 6 = .int zi2 := Eq.trans (up_at eh197 (Or.inl (kd_ne kd900 kd192 (by decide)))) eq195
          refine p_get (ci := 3) (v := .int zi2) (C := RX3) (T := TX3) (N := 7) hx hb hT iw_X3 hown hK hw hW kd900 (by decide) rfl rfl 6 (by decide) eq199 (hT _ tb_503) (fun _ h9 => h9) dX3_add_147 ?_
          refine lv_iconst (v := 1) hx hb dX3_add_150 (by decide) ?_
          refine lv_iadd hx hb dX3_add_151 (lv_topi (fun zi200 ea201 => ?_))
          have bd202 : (1 : Int) ≤ zi200.toInt ∧ zi200.toInt ≤ 131072 := b_iadd ea201 bd143 bc_1 (by decide) (by decide) (by decide) (by decide)
          have qe203 : zi200.toInt = (zi2 : Int32).toInt + (1 : Int32).toInt := e_iadd ea201 bd143 bc_1 (by decide) (by decide)
          have qe204 : zi200.toInt = zi2.toInt + 1 := by have ha : (1 : Int32).toInt = 1 := (by decide); rw [ha] at qe203; exact qe203
          have pd205 : NSx K ln hp196 gn := NSx_fr ok189  (show Fr [32000] K hp187 hp196 from (Fr.put (cq := 32000) (Fr.rf) eh197 kd192 (cd_a (by decide)) (by decide))) (by decide) pd193
          refine p_put (ci := 3) (v := .int zi200) (ty := .int) (C := RX3) (T := TX3) (N := 7) hx hb hT iw_X3 tyX3 tyX3_ok nmX3 hown hK hw hS hW kd900 (by decide) rfl rfl 6 (by decide) (hT _ tb_503) (fun _ h9 => h9) rfl (by decide +kernel) rfl rfl dX3_add_152 (fun hp206 eh207 H locs hw hS => ?_)
          have ok208 := wr_4006 bd202 (by decide) (by decide) ok198 kd900 eh207
          have ns209 : NSx K ln hp206 gn := NSx_size pd205 eh207 kd900 (by omega) ok198
          refine lv_aload_n hx hb dX3_add_155 rfl (lv_at hl 1 rfl) ?_
          have eq210 : hp206 qa900 5 = .ref qa124 := Eq.trans (up_at eh207 (Or.inr (by decide))) (Eq.trans (up_at eh197 (Or.inl (kd_ne kd900 kd192 (by decide)))) (Eq.trans (up_at eh188 (Or.inl (kd_ne kd900 kd183 (by decide)))) (Eq.trans (up_at eh179 (Or.inl (kd_ne kd900 kd172 (by decide)))) (Eq.trans (up_at eh168 (Or.inl (kd_ne kd900 kd161 (by decide)))) (Eq.trans (up_at eh157 (Or.inl (kd_ne kd900 kd135 (by decide)))) eq123)))))
          refine p_get (ci := 3) (v := .ref qa124) (C := RX3) (T := TX3) (N := 7) hx hb hT iw_X3 hown hK hw hW kd900 (by decide) rfl rfl 5 (by decide) eq210 (hT _ tb_502) (fun _ h9 => h9) dX3_add_156 ?_
          refine lv_iload hx hb dX3_add_159 (lv_at hl 0 rfl) ?_
          refine lv_aload_n hx hb dX3_add_161 rfl (lv_at hl 1 rfl) ?_
          refine p_get (ci := 3) (v := .int zi200) (C := RX3) (T := TX3) (N := 7) hx hb hT iw_X3 hown hK hw hW kd900 (by decide) rfl rfl 6 (by decide) (hp_self eh207) (hT _ tb_503) (fun _ h9 => h9) dX3_add_162 ?_
          refine p_iast (x := zi200) hx hb hK hw hS hW kd125 (by decide) rfl ln126 (vp_bv (by omega) (by omega)) dX3_add_165 (fun hp211 eh212 H locs hw hS => ?_)
          have ok213 := wr_33000 bd202 (by decide) (by decide) ok208 kd125 eh212
          have ns214 : NSx K ln hp211 gn := NSx_tab ns209 kd125 eh212 (by omega)
          have eq215 : hp211 qa900 6 = .int zi200 := Eq.trans (up_at eh212 (Or.inl (kd_ne kd900 kd125 (by decide)))) (hp_self eh207)
          rw [hQ]
          exact kz_v hx hb hr hlocks hS hp211 hw ⟨ok213, (Fr.put (cq := 33000) (Fr.put (cq := 4006) (Fr.put (cq := 32000) (Fr.put (cq := 31000) (Fr.put (cq := 30000) (Fr.put (cq := 29000) (Fr.put (cq := 28000) (Fr.rf) eh157 kd135 (cd_a (by decide)) (by decide)) eh168 kd161 (cd_a (by decide)) (by decide)) eh179 kd172 (cd_a (by decide)) (by decide)) eh188 kd183 (cd_a (by decide)) (by decide)) eh197 kd192 (cd_a (by decide)) (by decide)) eh207 kd900 (cd_o (by decide)) (by decide)) eh212 kd125 (cd_a (by decide)) (by decide)), (ns214), (by simp only [gi_of eq1, gi_of eq215]; omega)⟩ (Nat.le_of_ble_eq_true rfl) (Nat.le_of_ble_eq_true rfl) dX3_add_166
        · skip
          have tf216 : zi144.toInt ≤ zi2.toInt := (fa_le _ _).mp (Int32.not_lt.mp cn148)
          have bd217 : (256 : Int) ≤ zi144.toInt ∧ zi144.toInt ≤ 131071 := r_le_x (Int32.not_lt.mp cn148) bd147 bd143 (by decide) (by decide)
          have bd218 : (256 : Int) ≤ zi2.toInt ∧ zi2.toInt ≤ 131071 := r_le_y (Int32.not_lt.mp cn148) bd147 bd143 (by decide) (by decide)
          rw [hQ]
          exact kz_v hx hb hr hlocks hS hp0 hw ⟨ok0, (Fr.rf), (pdNS), (by simp only [gi_of eq1]; omega)⟩ (Nat.le_of_ble_eq_true rfl) (Nat.le_of_ble_eq_true rfl) dX3_add_85
      · skip
        have tf219 : zi137.toInt ≤ zi2.toInt := (fa_le _ _).mp (Int32.not_lt.mp cn141)
        have bd220 : (256 : Int) ≤ zi2.toInt ∧ zi2.toInt ≤ 131072 := r_le_y (Int32.not_lt.mp cn141) bd140 bd3 (by decide) (by decide)
        refine lv_aload_n hx hb dX3_add_55 rfl (lv_at hl 1 rfl) ?_
        refine kq_v hw hS hA (va_runV (As := []) (rest := []) ⟨hx, hb, hml, hown, hT⟩ (cX3_grow_vGM_0 l G cy ev K ln Ls hW _ hp0 ok0 qa900 gn kd900 pdNS xp0) (cwV 0 hT (good_V tb_1159 tb_1156 tb_1158 tb_34 tb_117) rfl rfl rfl (by decide +kernel) ⟨Nat.le_of_ble_eq_true rfl, Nat.le_of_ble_eq_true rfl⟩) (pool_preV (ci := 3) hK hE hS hA hw hW kd900 (by decide) rfl) rfl rfl hl.1 rfl (lv_room (Nat.le_of_ble_eq_true rfl)) dX3_add_56 ⟨Nat.le_of_ble_eq_true rfl, Nat.le_of_ble_eq_true rfl⟩) (fun hp221 H locs hq224 hw hS => ?_)
        obtain ⟨ok222, F223⟩ := hq224
        obtain rfl : hp0 = hp221 := (Fr.nil F223).symm
        have hw : PW G cy K ln Ls A hp0 H := hw
        refine lv_aload_n hx hb dX3_add_59 rfl (lv_at hl 1 rfl) ?_
        refine lv_aload_n hx hb dX3_add_60 rfl (lv_at hl 2 rfl) ?_
        refine lv_iload hx hb dX3_add_61 (lv_at hl 5 rfl) ?_
        refine kq_i hw hS hA (va_runV (As := [.ref qa901, .int zi904]) (rest := []) ⟨hx, hb, hml, hown, hT⟩ (cX3_slotOf_0 l G cy ev K ln Ls hW _ hp0 ok0 qa900 qa901 zi904 gn kd900 kd901 pdNS) (cwV 2 hT (good_V tb_1146 tb_1143 tb_1145 tb_33 tb_117) rfl rfl rfl (by decide +kernel) ⟨Nat.le_of_ble_eq_true rfl, Nat.le_of_ble_eq_true rfl⟩) (pool_preV (ci := 3) hK hE hS hA hw hW kd900 (by decide) rfl) rfl rfl hl.1 rfl (lv_room (Nat.le_of_ble_eq_true rfl)) dX3_add_63 ⟨Nat.le_of_ble_eq_true rfl, Nat.le_of_ble_eq_true rfl⟩) (fun zi230 hp226 H locs hq229 hw hS => ?_)
        obtain ⟨ok227, F228, bd231, xq232, xq233⟩ := hq229
        obtain rfl : hp0 = hp226 := (Fr.nil F228).symm
        have hw : PW G cy K ln Ls A hp0 H := hw
        refine lv_istore (lv' := [(6, .int zi230), (0, .ref qa900), (1, .ref qa901), (2, .int zi902), (3, .long wl903), (5, .int zi904)]) hx hb dX3_add_66 hl (by decide) rfl (fun ls hl => ?_)
        refine lv_iload hx hb dX3_add_68 (lv_at hl 0 rfl) ?_
        refine lv_if_lt (tgt := 85) hx hb dX3_add_70 (by decide) (fun cn234 => ?_) (fun cn234 => ?_)
        · skip
          have bd235 : (-1 : Int) ≤ zi230.toInt ∧ zi230.toInt ≤ -1 := r_lt_x cn234 bd231 bc_0 (by decide) (by decide)
          rw [hQ]
          exact kz_v hx hb hr hlocks hS hp0 hw ⟨ok0, (Fr.rf), (pdNS), (by simp only [gi_of eq1]; omega)⟩ (Nat.le_of_ble_eq_true rfl) (Nat.le_of_ble_eq_true rfl) dX3_add_85
        · skip
          have bd236 : (0 : Int) ≤ zi230.toInt ∧ zi230.toInt ≤ 262143 := r_le_y (Int32.not_lt.mp cn234) bc_0 bd231 (by decide) (by decide)
          refine lv_aload_n hx hb dX3_add_73 rfl (lv_at hl 1 rfl) ?_
          refine p_get (ci := 3) (v := .int zi2) (C := RX3) (T := TX3) (N := 7) hx hb hT iw_X3 hown hK hw hW kd900 (by decide) rfl rfl 6 (by decide) eq1 (hT _ tb_503) (fun _ h9 => h9) dX3_add_74 ?_
          refine lv_aload_n hx hb dX3_add_77 rfl (lv_at hl 1 rfl) ?_
          refine p_get (ci := 3) (v := .ref qa134) (C := RX3) (T := TX3) (N := 7) hx hb hT iw_X3 hown hK hw hW kd900 (by decide) rfl rfl 0 (by decide) eq133 (hT _ tb_492) (fun _ h9 => h9) dX3_add_78 ?_
          obtain ⟨zi237, ez238⟩ : ∃ z : Int32, Int32.ofNat (ln qa134) = z := ⟨_, rfl⟩
          refine p_alen (v := zi237) hx hb hK hw hW kd135 (by decide) rfl rfl ez238 dX3_add_81 ?_
          have hl239 : zi237.toInt = (gn : Nat) := by have h9 := ofNat_len ez238 (by rw [ln136]; omega); rw [ln136] at h9; exact h9
          have bd240 : (256 : Int) ≤ zi237.toInt ∧ zi237.toInt ≤ 131072 := (by omega)
          refine lv_icmp_lt (tgt := 86) hx hb dX3_add_82 (by decide) (fun cn241 => ?_) (fun cn241 => ?_)
          · skip
            have tf242 : zi2.toInt < zi237.toInt := (fa_lt _ _).mp cn241
            have bd243 : (256 : Int) ≤ zi2.toInt ∧ zi2.toInt ≤ 131071 := r_lt_x cn241 bd220 bd240 (by decide) (by decide)
            have bd244 : (257 : Int) ≤ zi237.toInt ∧ zi237.toInt ≤ 131072 := r_lt_y cn241 bd220 bd240 (by decide) (by decide)
            refine lv_aload_n hx hb dX3_add_86 rfl (lv_at hl 1 rfl) ?_
            refine p_get (ci := 3) (v := .ref qa134) (C := RX3) (T := TX3) (N := 7) hx hb hT iw_X3 hown hK hw hW kd900 (by decide) rfl rfl 0 (by decide) eq133 (hT _ tb_492) (fun _ h9 => h9) dX3_add_87 ?_
            refine lv_aload_n hx hb dX3_add_90 rfl (lv_at hl 1 rfl) ?_
            refine p_get (ci := 3) (v := .int zi2) (C := RX3) (T := TX3) (N := 7) hx hb hT iw_X3 hown hK hw hW kd900 (by decide) rfl rfl 6 (by decide) eq1 (hT _ tb_503) (fun _ h9 => h9) dX3_add_91 ?_
            refine lv_aload_n hx hb dX3_add_94 rfl (lv_at hl 2 rfl) ?_
            refine kq_i hw hS hA (va_runS (As := [.ref qa901]) (rest := [.int zi2, .ref qa134]) ⟨hx, hb, hml, hown, hT⟩ (cX3_packed_0 l G cy ev K ln Ls hW _ hp0 ok0 qa901 kd901) (va_cwS 1 hT (good_S tb_1149 tb_1147 tb_1148 tb_117) rfl rfl rfl (by decide +kernel) ⟨Nat.le_of_ble_eq_true rfl, Nat.le_of_ble_eq_true rfl⟩) (PB2.preS hK hE hS hA hw) rfl rfl hl.1 rfl (lv_room (Nat.le_of_ble_eq_true rfl)) dX3_add_95 ⟨Nat.le_of_ble_eq_true rfl, Nat.le_of_ble_eq_true rfl⟩) (fun zi249 hp245 H locs hq248 hw hS => ?_)
            obtain ⟨ok246, F247, xq250⟩ := hq248
            obtain rfl : hp0 = hp245 := (Fr.nil F247).symm
            have hw : PW G cy K ln Ls A hp0 H := hw
            refine p_iast (x := zi249) hx hb hK hw hS hW kd135 (by decide) rfl ln136 (vp_bv (by omega) (by omega)) dX3_add_98 (fun hp251 eh252 H locs hw hS => ?_)
            have ok253 := wr_28000 ok0 kd135 eh252
            refine lv_aload_n hx hb dX3_add_99 rfl (lv_at hl 1 rfl) ?_
            obtain ⟨qa255, eq254, kd256⟩ := rd_4001 ok253 kd900
            have pd257 : NSx K ln hp251 gn := NSx_fr ok0  (show Fr [28000] K hp0 hp251 from (Fr.put (cq := 28000) (Fr.rf) eh252 kd135 (cd_a (by decide)) (by decide))) (by decide) pdNS
            have ln258 := (pd257).ref kd900 (by decide) eq254
            refine p_get (ci := 3) (v := .ref qa255) (C := RX3) (T := TX3) (N := 7) hx hb hT iw_X3 hown hK hw hW kd900 (by decide) rfl rfl 1 (by decide) eq254 (hT _ tb_495) (fun _ h9 => h9) dX3_add_100 ?_
            refine lv_aload_n hx hb dX3_add_103 rfl (lv_at hl 1 rfl) ?_
            have eq259 : hp251 qa900 6 = .int zi2 := Eq.trans (up_at eh252 (Or.inl (kd_ne kd900 kd135 (by decide)))) eq1
            refine p_get (ci := 3) (v := .int zi2) (C := RX3) (T := TX3) (N := 7) hx hb hT iw_X3 hown hK hw hW kd900 (by decide) rfl rfl 6 (by decide) eq259 (hT _ tb_503) (fun _ h9 => h9) dX3_add_104 ?_
            refine lv_aload_n hx hb dX3_add_107 rfl (lv_at hl 2 rfl) ?_
            obtain ⟨zi261, eq260⟩ := rd_8000 ok253 kd901
            refine p_getN (ci := 7) (v := .int zi261) (C := RX7) (T := TX7) (N := 13) hx hb hT iw_X7 hown hK hw hW kd901 (by decide) rfl rfl 0 (by decide) eq260 (hK.fl nw_308) (fun _ h9 => h9) dX3_add_108 ?_
            refine p_iast (x := zi261) hx hb hK hw hS hW kd256 (by decide) rfl ln258 (vp_bv (by omega) (by omega)) dX3_add_111 (fun hp262 eh263 H locs hw hS => ?_)
            have ok264 := wr_29000 ok253 kd256 eh263
            refine lv_aload_n hx hb dX3_add_112 rfl (lv_at hl 1 rfl) ?_
            obtain ⟨qa266, eq265, kd267⟩ := rd_4002 ok264 kd900
            have pd268 : NSx K ln hp262 gn := NSx_fr ok253  (show Fr [29000] K hp251 hp262 from (Fr.put (cq := 29000) (Fr.rf) eh263 kd256 (cd_a (by decide)) (by decide))) (by decide) pd257
            have ln269 := (pd268).ref kd900 (by decide) eq265
            refine p_get (ci := 3) (v := .ref qa266) (C := RX3) (T := TX3) (N := 7) hx hb hT iw_X3 hown hK hw hW kd900 (by decide) rfl rfl 2 (by decide) eq265 (hT _ tb_497) (fun _ h9 => h9) dX3_add_113 ?_
            refine lv_aload_n hx hb dX3_add_116 rfl (lv_at hl 1 rfl) ?_
            have eq270 : hp262 qa900 6 = .int zi2 := Eq.trans (up_at eh263 (Or.inl (kd_ne kd900 kd256 (by decide)))) eq259
            refine p_get (ci := 3) (v := .int zi2) (C := RX3) (T := TX3) (N := 7) hx hb hT iw_X3 hown hK hw hW kd900 (by decide) rfl rfl 6 (by decide) eq270 (hT _ tb_503) (fun _ h9 => h9) dX3_add_117 ?_
            refine lv_aload_n hx hb dX3_add_120 rfl (lv_at hl 2 rfl) ?_
            obtain ⟨zi272, eq271⟩ := rd_8004 ok264 kd901
            refine p_getN (ci := 7) (v := .int zi272) (C := RX7) (T := TX7) (N := 13) hx hb hT iw_X7 hown hK hw hW kd901 (by decide) rfl rfl 4 (by decide) eq271 (hK.fl nw_323) (fun _ h9 => h9) dX3_add_121 ?_
            refine p_iast (x := zi272) hx hb hK hw hS hW kd267 (by decide) rfl ln269 (vp_bv (by omega) (by omega)) dX3_add_124 (fun hp273 eh274 H locs hw hS => ?_)
            have ok275 := wr_30000 ok264 kd267 eh274
            refine lv_aload_n hx hb dX3_add_125 rfl (lv_at hl 1 rfl) ?_
            obtain ⟨qa277, eq276, kd278⟩ := rd_4003 ok275 kd900
            have pd279 : NSx K ln hp273 gn := NSx_fr ok264  (show Fr [30000] K hp262 hp273 from (Fr.put (cq := 30000) (Fr.rf) eh274 kd267 (cd_a (by decide)) (by decide))) (by decide) pd268
            have ln280 := (pd279).ref kd900 (by decide) eq276
            refine p_get (ci := 3) (v := .ref qa277) (C := RX3) (T := TX3) (N := 7) hx hb hT iw_X3 hown hK hw hW kd900 (by decide) rfl rfl 3 (by decide) eq276 (hT _ tb_498) (fun _ h9 => h9) dX3_add_126 ?_
            refine lv_aload_n hx hb dX3_add_129 rfl (lv_at hl 1 rfl) ?_
            have eq281 : hp273 qa900 6 = .int zi2 := Eq.trans (up_at eh274 (Or.inl (kd_ne kd900 kd267 (by decide)))) eq270
            refine p_get (ci := 3) (v := .int zi2) (C := RX3) (T := TX3) (N := 7) hx hb hT iw_X3 hown hK hw hW kd900 (by decide) rfl rfl 6 (by decide) eq281 (hT _ tb_503) (fun _ h9 => h9) dX3_add_130 ?_
            refine lv_iload_n hx hb dX3_add_133 rfl (lv_at hl 3 rfl) ?_
            refine p_iast (x := zi902) hx hb hK hw hS hW kd278 (by decide) rfl ln280 (vp_bv (by omega) (by omega)) dX3_add_134 (fun hp282 eh283 H locs hw hS => ?_)
            have ok284 := wr_31000 ok275 kd278 eh283
            refine lv_aload_n hx hb dX3_add_135 rfl (lv_at hl 1 rfl) ?_
            obtain ⟨qa286, eq285, kd287⟩ := rd_4004 ok284 kd900
            have pd288 : NSx K ln hp282 gn := NSx_fr ok275  (show Fr [31000] K hp273 hp282 from (Fr.put (cq := 31000) (Fr.rf) eh283 kd278 (cd_a (by decide)) (by decide))) (by decide) pd279
            have ln289 := (pd288).ref kd900 (by decide) eq285
            refine p_get (ci := 3) (v := .ref qa286) (C := RX3) (T := TX3) (N := 7) hx hb hT iw_X3 hown hK hw hW kd900 (by decide) rfl rfl 4 (by decide) eq285 (hT _ tb_500) (fun _ h9 => h9) dX3_add_136 ?_
            refine lv_aload_n hx hb dX3_add_139 rfl (lv_at hl 1 rfl) ?_
            have eq290 : hp282 qa900 6 = .int zi2 := Eq.trans (up_at eh283 (Or.inl (kd_ne kd900 kd278 (by decide)))) eq281
            refine p_get (ci := 3) (v := .int zi2) (C := RX3) (T := TX3) (N := 7) hx hb hT iw_X3 hown hK hw hW kd900 (by decide) rfl rfl 6 (by decide) eq290 (hT _ tb_503) (fun _ h9 => h9) dX3_add_140 ?_
            refine lv_lload_n hx hb dX3_add_143 rfl (lv_at hl 4 rfl) ?_
            refine p_last (x := wl903) hx hb hK hw hS hW kd287 (by decide) rfl ln289 (vp_bv (by omega) (by omega)) dX3_add_144 (fun hp291 eh292 H locs hw hS => ?_)
            have ok293 := wr_32000 ok284 kd287 eh292
            refine lv_aload_n hx hb dX3_add_145 rfl (lv_at hl 1 rfl) ?_
            refine lv_dup hx hb dX3_add_146 rfl ?_
            have eq294 : hp291 qa900 6 = .int zi2 := Eq.trans (up_at eh292 (Or.inl (kd_ne kd900 kd287 (by decide)))) eq290
            refine p_get (ci := 3) (v := .int zi2) (C := RX3) (T := TX3) (N := 7) hx hb hT iw_X3 hown hK hw hW kd900 (by decide) rfl rfl 6 (by decide) eq294 (hT _ tb_503) (fun _ h9 => h9) dX3_add_147 ?_
            refine lv_iconst (v := 1) hx hb dX3_add_150 (by decide) ?_
            refine lv_iadd hx hb dX3_add_151 (lv_topi (fun zi295 ea296 => ?_))
            have bd297 : (257 : Int) ≤ zi295.toInt ∧ zi295.toInt ≤ 131072 := b_iadd ea296 bd243 bc_1 (by decide) (by decide) (by decide) (by decide)
            have qe298 : zi295.toInt = (zi2 : Int32).toInt + (1 : Int32).toInt := e_iadd ea296 bd243 bc_1 (by decide) (by decide)
            have qe299 : zi295.toInt = zi2.toInt + 1 := by have ha : (1 : Int32).toInt = 1 := (by decide); rw [ha] at qe298; exact qe298
            have pd300 : NSx K ln hp291 gn := NSx_fr ok284  (show Fr [32000] K hp282 hp291 from (Fr.put (cq := 32000) (Fr.rf) eh292 kd287 (cd_a (by decide)) (by decide))) (by decide) pd288
            refine p_put (ci := 3) (v := .int zi295) (ty := .int) (C := RX3) (T := TX3) (N := 7) hx hb hT iw_X3 tyX3 tyX3_ok nmX3 hown hK hw hS hW kd900 (by decide) rfl rfl 6 (by decide) (hT _ tb_503) (fun _ h9 => h9) rfl (by decide +kernel) rfl rfl dX3_add_152 (fun hp301 eh302 H locs hw hS => ?_)
            have ok303 := wr_4006 bd297 (by decide) (by decide) ok293 kd900 eh302
            have ns304 : NSx K ln hp301 gn := NSx_size pd300 eh302 kd900 (by omega) ok293
            refine lv_aload_n hx hb dX3_add_155 rfl (lv_at hl 1 rfl) ?_
            have eq305 : hp301 qa900 5 = .ref qa124 := Eq.trans (up_at eh302 (Or.inr (by decide))) (Eq.trans (up_at eh292 (Or.inl (kd_ne kd900 kd287 (by decide)))) (Eq.trans (up_at eh283 (Or.inl (kd_ne kd900 kd278 (by decide)))) (Eq.trans (up_at eh274 (Or.inl (kd_ne kd900 kd267 (by decide)))) (Eq.trans (up_at eh263 (Or.inl (kd_ne kd900 kd256 (by decide)))) (Eq.trans (up_at eh252 (Or.inl (kd_ne kd900 kd135 (by decide)))) eq123)))))
            refine p_get (ci := 3) (v := .ref qa124) (C := RX3) (T := TX3) (N := 7) hx hb hT iw_X3 hown hK hw hW kd900 (by decide) rfl rfl 5 (by decide) eq305 (hT _ tb_502) (fun _ h9 => h9) dX3_add_156 ?_
            refine lv_iload hx hb dX3_add_159 (lv_at hl 0 rfl) ?_
            refine lv_aload_n hx hb dX3_add_161 rfl (lv_at hl 1 rfl) ?_
            refine p_get (ci := 3) (v := .int zi295) (C := RX3) (T := TX3) (N := 7) hx hb hT iw_X3 hown hK hw hW kd900 (by decide) rfl rfl 6 (by decide) (hp_self eh302) (hT _ tb_503) (fun _ h9 => h9) dX3_add_162 ?_
            refine p_iast (x := zi295) hx hb hK hw hS hW kd125 (by decide) rfl ln126 (vp_bv (by omega) (by omega)) dX3_add_165 (fun hp306 eh307 H locs hw hS => ?_)
            have ok308 := wr_33000 bd297 (by decide) (by decide) ok303 kd125 eh307
            have ns309 : NSx K ln hp306 gn := NSx_tab ns304 kd125 eh307 (by omega)
            have eq310 : hp306 qa900 6 = .int zi295 := Eq.trans (up_at eh307 (Or.inl (kd_ne kd900 kd125 (by decide)))) (hp_self eh302)
            rw [hQ]
            exact kz_v hx hb hr hlocks hS hp306 hw ⟨ok308, (Fr.put (cq := 33000) (Fr.put (cq := 4006) (Fr.put (cq := 32000) (Fr.put (cq := 31000) (Fr.put (cq := 30000) (Fr.put (cq := 29000) (Fr.put (cq := 28000) (Fr.rf) eh252 kd135 (cd_a (by decide)) (by decide)) eh263 kd256 (cd_a (by decide)) (by decide)) eh274 kd267 (cd_a (by decide)) (by decide)) eh283 kd278 (cd_a (by decide)) (by decide)) eh292 kd287 (cd_a (by decide)) (by decide)) eh302 kd900 (cd_o (by decide)) (by decide)) eh307 kd125 (cd_a (by decide)) (by decide)), (ns309), (by simp only [gi_of eq1, gi_of eq310]; omega)⟩ (Nat.le_of_ble_eq_true rfl) (Nat.le_of_ble_eq_true rfl) dX3_add_166
          · skip
            have tf311 : zi237.toInt ≤ zi2.toInt := (fa_le _ _).mp (Int32.not_lt.mp cn241)
            rw [hQ]
            exact kz_v hx hb hr hlocks hS hp0 hw ⟨ok0, (Fr.rf), (pdNS), (by simp only [gi_of eq1]; omega)⟩ (Nat.le_of_ble_eq_true rfl) (Nat.le_of_ble_eq_true rfl) dX3_add_85
    · skip
      have bd312 : (1 : Int) ≤ zi128.toInt ∧ zi128.toInt ≤ 131072 := r_lt_y (Int32.not_le.mp cn131) bc_0 bd129 (by decide) (by decide)
      refine lv_aload_n hx hb dX3_add_24 rfl (lv_at hl 1 rfl) ?_
      obtain ⟨qa314, eq313, kd315⟩ := rd_4004 ok0 kd900
      have ln316 := (pdNS).ref kd900 (by decide) eq313
      refine p_get (ci := 3) (v := .ref qa314) (C := RX3) (T := TX3) (N := 7) hx hb hT iw_X3 hown hK hw hW kd900 (by decide) rfl rfl 4 (by decide) eq313 (hT _ tb_500) (fun _ h9 => h9) dX3_add_25 ?_
      refine lv_aload_n hx hb dX3_add_28 rfl (lv_at hl 1 rfl) ?_
      refine p_get (ci := 3) (v := .ref qa124) (C := RX3) (T := TX3) (N := 7) hx hb hT iw_X3 hown hK hw hW kd900 (by decide) rfl rfl 5 (by decide) eq123 (hT _ tb_502) (fun _ h9 => h9) dX3_add_29 ?_
      refine lv_iload hx hb dX3_add_32 (lv_at hl 0 rfl) ?_
      refine p_iald (v := zi128) hx hb hK hw hW kd125 (by decide) rfl ln126 (vp_bv (by omega) (by omega)) eq127 dX3_add_34 ?_
      refine lv_iconst (v := 1) hx hb dX3_add_35 (by decide) ?_
      refine lv_isub hx hb dX3_add_36 (lv_topi (fun zi317 ea318 => ?_))
      have bd319 : (0 : Int) ≤ zi317.toInt ∧ zi317.toInt ≤ 131071 := b_isub ea318 bd312 bc_1 (by decide) (by decide) (by decide) (by decide)
      have qe320 : zi317.toInt = (zi128 : Int32).toInt - (1 : Int32).toInt := e_isub ea318 bd312 bc_1 (by decide) (by decide)
      have qe321 : zi317.toInt = zi128.toInt - 1 := by have ha : (1 : Int32).toInt = 1 := (by decide); rw [ha] at qe320; exact qe320
      refine lv_dup2_11 hx hb dX3_add_37 rfl rfl ?_
      obtain ⟨wl323, eq322⟩ := rd_32000 ok0 kd315 ((zi317 : Int32).toNatClampNeg)
      refine p_lald (v := wl323) hx hb hK hw hW kd315 (by decide) rfl ln316 (vp_bv (by omega) (by omega)) eq322 dX3_add_38 ?_
      refine lv_lload_n hx hb dX3_add_39 rfl (lv_at hl 4 rfl) ?_
      refine lv_ladd hx hb dX3_add_40 (lv_topl (fun wl324 _ => ?_))
      refine p_last (x := wl324) hx hb hK hw hS hW kd315 (by decide) rfl ln316 (vp_bv (by omega) (by omega)) dX3_add_41 (fun hp325 eh326 H locs hw hS => ?_)
      have ok327 := wr_32000 ok0 kd315 eh326
      have pd328 : NSx K ln hp325 gn := NSx_fr ok0  (show Fr [32000] K hp0 hp325 from (Fr.put (cq := 32000) (Fr.rf) eh326 kd315 (cd_a (by decide)) (by decide))) (by decide) pdNS
      have eq329 : hp325 qa900 6 = .int zi2 := Eq.trans (up_at eh326 (Or.inl (kd_ne kd900 kd315 (by decide)))) eq1
      rw [hQ]
      exact kz_v hx hb hr hlocks hS hp325 hw ⟨ok327, (Fr.put (cq := 32000) (Fr.rf) eh326 kd315 (cd_a (by decide)) (by decide)), (pd328), (by simp only [gi_of eq1, gi_of eq329]; omega)⟩ (Nat.le_of_ble_eq_true rfl) (Nat.le_of_ble_eq_true rfl) dX3_add_42
