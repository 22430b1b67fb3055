set_option maxRecDepth 100000 in
set_option maxHeartbeats 4000000 in
theorem cJ7_fill_53178_vV_0 (l : Launch) (G : va_G) (cy : Nat → ClassId) (ev : Ew) (K ln : Nat → Nat) (Ls : List Nat) (hW : SW K ln Ls) (sz : Nat) (hp0 : Nat → Nat → Value) (ok0 : Ok K hp0) (qa900 : Nat) (zi901 : Int32) (kd900 : K qa900 = 33) (bd901 : ((0 : Int) ≤ zi901.toInt ∧ zi901.toInt ≤ 0)) (xp0 : ln qa900 ≤ 262144) : Met l yJ7_fill_53178 (WS yJ7_fill_53178 cJ7_fill_53178 4 none) { frames := 0, cells := 0, slots := 0, locals := 0 } (PB2 [.ref qa900, .int zi901] sz G cy ev (va_pl Ls (cellOf cy K ln hp0))) (QBv (S := (Nat → Nat → Value)) (fun u : (Nat → Nat → Value) => Ok K u ∧ Fr [33000] K hp0 u ∧ (∀ k : Nat, k < ln qa900 → u qa900 k = .int zi901)) G (fun u => va_pl Ls (cellOf cy K ln u)) (va_A (va_pl Ls (cellOf cy K ln hp0)) sz)) 0 0 (va_A (va_pl Ls (cellOf cy K ln hp0)) sz) := by
  refine met_of2 (y := yJ7_fill_53178) (L := 4) (av := [.ref qa900, .int zi901]) (Qc := fun A => QBv (S := (Nat → Nat → Value)) (fun u : (Nat → Nat → Value) => Ok K u ∧ Fr [33000] K hp0 u ∧ (∀ k : Nat, k < ln qa900 → u qa900 k = .int zi901)) G (fun u => va_pl Ls (cellOf cy K ln u)) A) (plainFor_of_name (by decide)) (Nat.le_of_ble_eq_true rfl) ?_
  intro p e s m below meth c hsz hx hb hr hml hown hT hlocks hin hK A hA hE hw hS ls hl
  have hw : PW G cy K ln Ls A hp0 s.heap := hw
  have hown : s.vm.findClass "java/util/Arrays" = some m.cls := hown
  have hl : lv_has ls 4 [(0, .ref qa900), (1, .int zi901)] := hl
  obtain ⟨Q, hQ⟩ : ∃ Q : State → Prop, Q = MQ below (QBv (S := (Nat → Nat → Value)) (fun u : (Nat → Nat → Value) => Ok K u ∧ Fr [33000] K hp0 u ∧ (∀ k : Nat, k < ln qa900 → u qa900 k = .int zi901)) G (fun u => va_pl Ls (cellOf cy K ln u)) A) ([.ref qa900, .int zi901] : List Value).toArray s 0 0 A := ⟨_, rfl⟩
  rw [← hQ]
  refine lv_iconst (v := 0) hx hb dJ7_fill_53178_0 (by decide) ?_
  refine lv_istore_n (lv' := [(2, .int 0), (0, .ref qa900), (1, .int zi901)]) hx hb dJ7_fill_53178_1 rfl hl (by decide) rfl (fun ls hl => ?_)
  refine lv_aload_n hx hb dJ7_fill_53178_2 rfl (lv_at hl 1 rfl) ?_
  obtain ⟨zi1, ez2⟩ : ∃ z : Int32, Int32.ofNat (ln qa900) = z := ⟨_, rfl⟩
  refine p_alen (v := zi1) hx hb hK hw hW kd900 (by decide) rfl rfl ez2 dJ7_fill_53178_3 ?_
  have hl3 : zi1.toInt = (ln qa900 : Nat) := ofNat_len ez2 (by omega)
  have bd4 : (0 : Int) ≤ zi1.toInt ∧ zi1.toInt ≤ 262144 := (by omega)
  refine lv_istore_n (lv' := [(3, .int zi1), (2, .int 0), (0, .ref qa900), (1, .int zi901)]) hx hb dJ7_fill_53178_4 rfl hl (by decide) rfl (fun ls hl => ?_)
  have lp98 : ∀ (n96 : Nat) (hp63 : Nat → Nat → Value) (zi62 : Int32) (H : Heap) (locs : List Loc) (ls : Array Slot), 262144 - zi62.toInt < (n96 : Int) → Ok K hp63 → Fr [33000] K hp0 hp63 → ((0 : Int) ≤ zi62.toInt ∧ zi62.toInt ≤ 262144) → (∀ k : Nat, (k : Int) < (zi62 : Int32).toInt → hp63 qa900 k = .int zi901) → lv_has ls 4 [(0, .ref qa900), (1, .int zi901), (2, .int zi62), (3, .int zi1)] → PW G cy K ln Ls A hp63 H → va_S A s.heap H locs → W p l e ({ frames := 0, cells := 0, slots := 0, locals := 0 } : Room) s m ([.ref qa900, .int zi901] : List Value).toArray below meth c H locs 0 0 Q (F0 m 5 ls []) := by
    intro n96
    induction n96 with
    | zero =>
      intro hp63 zi62 H locs ls hm99 ok65 F64 bd67 jx66 hl hw hS
      exact absurd hm99 (by have := bd67; omega)
    | succ n96 ih97 =>
      intro hp63 zi62 H locs ls hm99 ok65 F64 bd67 jx66 hl hw hS
      refine lv_iload_n hx hb dJ7_fill_53178_5 rfl (lv_at hl 2 rfl) ?_
      refine lv_iload_n hx hb dJ7_fill_53178_6 rfl (lv_at hl 3 rfl) ?_
      refine lv_icmp_ge (tgt := 20) hx hb dJ7_fill_53178_7 (by decide) (fun cn100 => ?_) (fun cn100 => ?_)
      · skip
        have tf101 : zi1.toInt ≤ zi62.toInt := (fa_le _ _).mp cn100
        rw [hQ]
        exact kz_v hx hb hr hlocks hS hp63 hw ⟨ok65, (Fr.tr (Fr.rf) F64 (by decide)), (fun k hk => jx66 k (by omega))⟩ (Nat.le_of_ble_eq_true rfl) (Nat.le_of_ble_eq_true rfl) dJ7_fill_53178_20
      · skip
        have tf102 : zi62.toInt < zi1.toInt := (fa_lt _ _).mp (Int32.not_le.mp cn100)
        have bd103 : (0 : Int) ≤ zi62.toInt ∧ zi62.toInt ≤ 262143 := r_lt_x (Int32.not_le.mp cn100) bd67 bd4 (by decide) (by decide)
        have bd104 : (1 : Int) ≤ zi1.toInt ∧ zi1.toInt ≤ 262144 := r_lt_y (Int32.not_le.mp cn100) bd67 bd4 (by decide) (by decide)
        refine lv_aload_n hx hb dJ7_fill_53178_10 rfl (lv_at hl 0 rfl) ?_
        refine lv_iload_n hx hb dJ7_fill_53178_11 rfl (lv_at hl 2 rfl) ?_
        refine lv_iload_n hx hb dJ7_fill_53178_12 rfl (lv_at hl 1 rfl) ?_
        refine p_iast (x := zi901) hx hb hK hw hS hW kd900 (by decide) rfl rfl (vp_bv (by omega) (by omega)) dJ7_fill_53178_13 (fun hp105 eh106 H locs hw hS => ?_)
        have ok107 := wr_33000 bd901 (by decide) (by decide) ok65 kd900 eh106
        obtain ⟨zi108, ea109⟩ : ∃ z : Int32, z = zi62 + 1 := ⟨_, rfl⟩
        have bd110 : (1 : Int) ≤ zi108.toInt ∧ zi108.toInt ≤ 262144 := b_iadd ea109 bd103 bc_1 (by decide) (by decide) (by decide) (by decide)
        have qe111 : zi108.toInt = (zi62 : Int32).toInt + (1 : Int32).toInt := e_iadd ea109 bd103 bc_1 (by decide) (by decide)
        have qe112 : zi108.toInt = zi62.toInt + 1 := by have ha : (1 : Int32).toInt = 1 := (by decide); rw [ha] at qe111; exact qe111
        refine lv_iinc (v := zi108) (lv' := [(2, .int zi108), (0, .ref qa900), (1, .int zi901), (3, .int zi1)]) hx hb dJ7_fill_53178_14 hl (k := 2) rfl ea109.symm (by decide) rfl (fun ls hl => ?_)
        have fl113 := fill_step jx66 eh106 (by omega) qe112
        refine lv_goto (tgt := 5) hx hb dJ7_fill_53178_17 (by decide) ?_
        exact ih97 hp105 zi108 _ _ ls (by have := hm99; have := qe112; omega) ok107 (Fr.put (cq := 33000) (Fr.tr (Fr.rf) F64 (by decide)) eh106 kd900 (cd_a (by decide)) (by decide)) (b_wid2 bd110 (by decide) (by decide)) fl113 (lv_sub hl [1, 2, 0, 3] rfl) hw hS
  exact lp98 _ hp0 0 _ _ ls (lp_in _) ok0 (Fr.rf) (b_wid2 bc_0 (by decide) (by decide)) (fun k hk => absurd hk (by have := toi bc_0; omega)) (lv_sub hl [2, 3, 1, 0] rfl) hw hS

set_option maxRecDepth 100000 in
set_option maxHeartbeats 4000000 in
theorem cX3_clear_0 (l : Launch) (G : va_G) (cy : Nat → ClassId) (ev : Ew) (K ln : Nat → Nat) (Ls : List Nat) (hW : SW K ln Ls) (sz : Nat) (hp0 : Nat → Nat → Value) (ok0 : Ok K hp0) (qa900 : Nat) (gn : Nat) (kd900 : K qa900 = 4) (pdNS : NSx K ln hp0 gn) : Met l yX3_clear (WS yX3_clear cX3_clear 1 none) { frames := 1, cells := 0, slots := 0, locals := 23 } (PB2 [.ref qa900] sz G cy ev (va_pl Ls (cellOf cy K ln hp0))) (QBv (S := (Nat → Nat → Value)) (fun u : (Nat → Nat → Value) => Ok K u ∧ Fr [4006, 33000] K hp0 u ∧ (∃ z : Int32, u qa900 6 = .int z ∧ ((0 : Int) ≤ z.toInt ∧ z.toInt ≤ 0)) ∧ (NSx K ln u gn)) G (fun u => va_pl Ls (cellOf cy K ln u)) (va_A (va_pl Ls (cellOf cy K ln hp0)) sz)) 0 0 (va_A (va_pl Ls (cellOf cy K ln hp0)) sz) := by
  refine met_of2 (y := yX3_clear) (L := 1) (av := [.ref qa900]) (Qc := fun A => QBv (S := (Nat → Nat → Value)) (fun u : (Nat → Nat → Value) => Ok K u ∧ Fr [4006, 33000] K hp0 u ∧ (∃ z : Int32, u qa900 6 = .int z ∧ ((0 : Int) ≤ z.toInt ∧ z.toInt ≤ 0)) ∧ (NSx K ln u gn)) G (fun u => va_pl Ls (cellOf cy K ln u)) A) (plainFor_of_name (by decide)) (Nat.le_of_ble_eq_true rfl) ?_
  intro p e s m below meth c hsz hx hb hr hml hown hT hlocks hin hK A hA hE hw hS ls hl
  have hw : PW G cy K ln Ls A hp0 s.heap := hw
  have hown : s.vm.findClass "LieClock$Nodes" = some m.cls := hown
  have hl : lv_has ls 1 [(0, .ref qa900)] := hl
  obtain ⟨Q, hQ⟩ : ∃ Q : State → Prop, Q = MQ below (QBv (S := (Nat → Nat → Value)) (fun u : (Nat → Nat → Value) => Ok K u ∧ Fr [4006, 33000] K hp0 u ∧ (∃ z : Int32, u qa900 6 = .int z ∧ ((0 : Int) ≤ z.toInt ∧ z.toInt ≤ 0)) ∧ (NSx K ln u gn)) G (fun u => va_pl Ls (cellOf cy K ln u)) A) ([.ref qa900] : List Value).toArray s 0 0 A := ⟨_, rfl⟩
  rw [← hQ]
  have hgn := NSx.bd pdNS
  refine lv_aload_n hx hb dX3_clear_0 rfl (lv_at hl 0 rfl) ?_
  refine lv_iconst (v := 0) hx hb dX3_clear_1 (by decide) ?_
  refine p_put (ci := 3) (v := .int 0) (ty := .int) (C := RX3) (T := TX3) (N := 7) hx hb hT iw_X3 tyX3 tyX3_ok nmX3 hown hK hw hS hW kd900 (by decide) rfl rfl 6 (by decide) (hT _ tb_503) (fun _ h9 => h9) rfl (by decide +kernel) rfl rfl dX3_clear_2 (fun hp1 eh2 H locs hw hS => ?_)
  have ok3 := wr_4006 bc_0 (by decide) (by decide) ok0 kd900 eh2
  have ns4 : NSx K ln hp1 gn := NSx_size pdNS eh2 kd900 (by have := toi bc_0; omega) ok0
  refine lv_aload_n hx hb dX3_clear_5 rfl (lv_at hl 0 rfl) ?_
  obtain ⟨qa6, eq5, kd7⟩ := rd_4005 ok3 kd900
  have ln8 := (ns4).tab kd900 eq5
  refine p_get (ci := 3) (v := .ref qa6) (C := RX3) (T := TX3) (N := 7) hx hb hT iw_X3 hown hK hw hW kd900 (by decide) rfl rfl 5 (by decide) eq5 (hT _ tb_502) (fun _ h9 => h9) dX3_clear_6 ?_
  refine lv_iconst (v := 0) hx hb dX3_clear_9 (by decide) ?_
  refine kq_v hw hS hA (va_runS (As := [.ref qa6, .int 0]) (rest := []) ⟨hx, hb, hml, hown, hT⟩ (cJ7_fill_53178_vV_0 l G cy ev K ln Ls hW _ hp1 ok3 qa6 0 kd7 (b_wid2 bc_0 (by decide) (by decide)) (by rw [ln8]; omega)) (va_cwS 2 hT (good_S tb_483 tb_1137 tb_482 tb_116) rfl rfl rfl (by decide +kernel) ⟨Nat.le_of_ble_eq_true rfl, Nat.le_of_ble_eq_true rfl⟩) (PB2.preS hK hE hS hA hw) rfl rfl hl.1 rfl (lv_room (Nat.le_of_ble_eq_true rfl)) dX3_clear_10 ⟨Nat.le_of_ble_eq_true rfl, Nat.le_of_ble_eq_true rfl⟩) (fun hp9 H locs hq12 hw hS => ?_)
  obtain ⟨ok10, F11, xq14⟩ := hq12
  have hw : PW G cy K ln Ls A hp9 H := hw
  have ns15 : NSx K ln hp9 gn := NSx_fill ok3 ns4 kd900 eq5 F11 xq14
  have eq16 : hp9 qa900 6 = .int 0 := Eq.trans (Fr.at (cq := 4006) F11 kd900 (cd_o (by decide)) (by decide)) (hp_self eh2)
  rw [hQ]
  exact kz_v hx hb hr hlocks hS hp9 hw ⟨ok10, (Fr.tr (Fr.put (cq := 4006) (Fr.rf) eh2 kd900 (cd_o (by decide)) (by decide)) F11 (by decide)), ⟨_, eq16, b_wid2 bc_0 (by decide) (by decide)⟩, (ns15)⟩ (Nat.le_of_ble_eq_true rfl) (Nat.le_of_ble_eq_true rfl) dX3_clear_13
