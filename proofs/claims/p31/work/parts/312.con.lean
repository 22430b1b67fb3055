set_option maxRecDepth 100000 in
set_option maxHeartbeats 4000000 in
theorem cX3_packed_0 (l : Launch) (G : va_G) (cy : Nat → ClassId) (ev : Ew) (K ln : Nat → Nat) (Ls : List Nat) (hW : SW K ln Ls) (sz : Nat) (hp0 : Nat → Nat → Value) (ok0 : Ok K hp0) (qa900 : Nat) (kd900 : K qa900 = 8) : Met l yX3_packed (WS yX3_packed cX3_packed 1 (some .int)) { frames := 0, cells := 0, slots := 0, locals := 0 } (PB2 [.ref qa900] sz G cy ev (va_pl Ls (cellOf cy K ln hp0))) (QBi (S := (Nat → Nat → Value)) (fun (r : Int32) (u : (Nat → Nat → Value)) => Ok K u ∧ Fr [] K hp0 u ∧ (r = pkf (vI (hp0 qa900 1)) (vI (hp0 qa900 2)))) G (fun u => va_pl Ls (cellOf cy K ln u)) (va_A (va_pl Ls (cellOf cy K ln hp0)) sz)) 0 0 (va_A (va_pl Ls (cellOf cy K ln hp0)) sz) := by
  refine met_of2 (y := yX3_packed) (L := 1) (av := [.ref qa900]) (Qc := fun A => QBi (S := (Nat → Nat → Value)) (fun (r : Int32) (u : (Nat → Nat → Value)) => Ok K u ∧ Fr [] K hp0 u ∧ (r = pkf (vI (hp0 qa900 1)) (vI (hp0 qa900 2)))) G (fun u => va_pl Ls (cellOf cy K ln u)) A) (plainFor_of_name (by decide)) (Nat.le_of_ble_eq_true rfl) ?_
  intro p e s m below meth c hsz hx hb hr hml hown hT hlocks hin hK A hA hE hw hS ls hl
  have hw : PW G cy K ln Ls A hp0 s.heap := hw
  have hown : s.vm.findClass "LieClock$Nodes" = some m.cls := hown
  have hl : lv_has ls 1 [(0, .ref qa900)] := hl
  obtain ⟨Q, hQ⟩ : ∃ Q : State → Prop, Q = MQ below (QBi (S := (Nat → Nat → Value)) (fun (r : Int32) (u : (Nat → Nat → Value)) => Ok K u ∧ Fr [] K hp0 u ∧ (r = pkf (vI (hp0 qa900 1)) (vI (hp0 qa900 2)))) G (fun u => va_pl Ls (cellOf cy K ln u)) A) ([.ref qa900] : List Value).toArray s 0 0 A := ⟨_, rfl⟩
  rw [← hQ]
  refine lv_aload_n hx hb dX3_packed_0 rfl (lv_at hl 0 rfl) ?_
  obtain ⟨zi2, eq1⟩ := rd_8001 ok0 kd900
  refine p_getN (ci := 7) (v := .int zi2) (C := RX7) (T := TX7) (N := 13) hx hb hT iw_X7 hown hK hw hW kd900 (by decide) rfl rfl 1 (by decide) eq1 (hK.fl nw_313) (fun _ h9 => h9) dX3_packed_1 ?_
  refine lv_aload_n hx hb dX3_packed_4 rfl (lv_at hl 0 rfl) ?_
  obtain ⟨zi4, eq3⟩ := rd_8002 ok0 kd900
  refine p_getN (ci := 7) (v := .int zi4) (C := RX7) (T := TX7) (N := 13) hx hb hT iw_X7 hown hK hw hW kd900 (by decide) rfl rfl 2 (by decide) eq3 (hK.fl nw_317) (fun _ h9 => h9) dX3_packed_5 ?_
  refine lv_bipush (v := 16) hx hb dX3_packed_8 (by decide) ?_
  refine lv_ishl hx hb dX3_packed_10 (lv_topi (fun zi5 ea6 => ?_))
  refine lv_ior hx hb dX3_packed_11 (lv_topi (fun zi7 ea8 => ?_))
  rw [hQ]
  exact kz_i hx hb hr hlocks hS rfl hp0 hw ⟨ok0, (Fr.rf), (by rw [eq1, eq3, ea8, ea6]; rfl)⟩ (Nat.le_of_ble_eq_true rfl) (Nat.le_of_ble_eq_true rfl) dX3_packed_12

set_option maxRecDepth 100000 in
set_option maxHeartbeats 4000000 in
theorem cX3_hash_0 (l : Launch) (G : va_G) (cy : Nat → ClassId) (ev : Ew) (K ln : Nat → Nat) (Ls : List Nat) (hW : SW K ln Ls) (sz : Nat) (hp0 : Nat → Nat → Value) (ok0 : Ok K hp0) (zi900 : Int32) (zi901 : Int32) (zi902 : Int32)  : Met l yX3_hash (WS yX3_hash cX3_hash 4 (some .int)) { frames := 0, cells := 0, slots := 0, locals := 0 } (PB2 [.int zi900, .int zi901, .int zi902] sz G cy ev (va_pl Ls (cellOf cy K ln hp0))) (QBi (S := (Nat → Nat → Value)) (fun (r : Int32) (u : (Nat → Nat → Value)) => Ok K u ∧ Fr [] K hp0 u ∧ (r = hshf zi900 zi901 zi902)) G (fun u => va_pl Ls (cellOf cy K ln u)) (va_A (va_pl Ls (cellOf cy K ln hp0)) sz)) 0 0 (va_A (va_pl Ls (cellOf cy K ln hp0)) sz) := by
  refine met_of2 (y := yX3_hash) (L := 4) (av := [.int zi900, .int zi901, .int zi902]) (Qc := fun A => QBi (S := (Nat → Nat → Value)) (fun (r : Int32) (u : (Nat → Nat → Value)) => Ok K u ∧ Fr [] K hp0 u ∧ (r = hshf zi900 zi901 zi902)) G (fun u => va_pl Ls (cellOf cy K ln u)) A) (plainFor_of_name (by decide)) (Nat.le_of_ble_eq_true rfl) ?_
  intro p e s m below meth c hsz hx hb hr hml hown hT hlocks hin hK A hA hE hw hS ls hl
  have hw : PW G cy K ln Ls A hp0 s.heap := hw
  have hown : s.vm.findClass "LieClock$Nodes" = some m.cls := hown
  have hl : lv_has ls 4 [(0, .int zi900), (1, .int zi901), (2, .int zi902)] := hl
  obtain ⟨Q, hQ⟩ : ∃ Q : State → Prop, Q = MQ below (QBi (S := (Nat → Nat → Value)) (fun (r : Int32) (u : (Nat → Nat → Value)) => Ok K u ∧ Fr [] K hp0 u ∧ (r = hshf zi900 zi901 zi902)) G (fun u => va_pl Ls (cellOf cy K ln u)) A) ([.int zi900, .int zi901, .int zi902] : List Value).toArray s 0 0 A := ⟨_, rfl⟩
  rw [← hQ]
  refine lv_iload_n hx hb dX3_hash_0 rfl (lv_at hl 0 rfl) ?_
  refine lv_ldc (v := (-1640531535)) hx hb hown (hT _ tb_1153) dX3_hash_1 ?_
  refine lv_imul hx hb dX3_hash_3 (lv_topi (fun zi1 ea2 => ?_))
  refine lv_iload_n hx hb dX3_hash_4 rfl (lv_at hl 1 rfl) ?_
  refine lv_ldc (v := (-2048144789)) hx hb hown (hT _ tb_1154) dX3_hash_5 ?_
  refine lv_imul hx hb dX3_hash_7 (lv_topi (fun zi3 ea4 => ?_))
  refine lv_iadd hx hb dX3_hash_8 (lv_topi (fun zi5 ea6 => ?_))
  refine lv_iload_n hx hb dX3_hash_9 rfl (lv_at hl 2 rfl) ?_
  refine lv_ldc (v := (-1028477387)) hx hb hown (hT _ tb_1155) dX3_hash_10 ?_
  refine lv_imul hx hb dX3_hash_12 (lv_topi (fun zi7 ea8 => ?_))
  refine lv_iadd hx hb dX3_hash_13 (lv_topi (fun zi9 ea10 => ?_))
  refine lv_istore_n (lv' := [(3, .int zi9), (0, .int zi900), (1, .int zi901), (2, .int zi902)]) hx hb dX3_hash_14 rfl hl (by decide) rfl (fun ls hl => ?_)
  refine lv_iload_n hx hb dX3_hash_15 rfl (lv_at hl 0 rfl) ?_
  refine lv_iload_n hx hb dX3_hash_16 rfl (lv_at hl 0 rfl) ?_
  refine lv_bipush (v := 15) hx hb dX3_hash_17 (by decide) ?_
  refine lv_iushr hx hb dX3_hash_19 rfl (lv_topi (fun zi11 ea12 => ?_))
  refine lv_ixor hx hb dX3_hash_20 (lv_topi (fun zi13 ea14 => ?_))
  rw [hQ]
  exact kz_i hx hb hr hlocks hS rfl hp0 hw ⟨ok0, (Fr.rf), (by simp only [hshf, ea2, ea4, ea6, ea8, ea10, ea12, ea14])⟩ (Nat.le_of_ble_eq_true rfl) (Nat.le_of_ble_eq_true rfl) dX3_hash_21

set_option maxRecDepth 100000 in
set_option maxHeartbeats 4000000 in
theorem cX3_slotOf_0 (l : Launch) (G : va_G) (cy : Nat → ClassId) (ev : Ew) (K ln : Nat → Nat) (Ls : List Nat) (hW : SW K ln Ls) (sz : Nat) (hp0 : Nat → Nat → Value) (ok0 : Ok K hp0) (qa900 : Nat) (qa901 : Nat) (zi902 : Int32) (gn : Nat) (kd900 : K qa900 = 4) (kd901 : K qa901 = 8) (pdNS : NSx K ln hp0 gn) : Met l yX3_slotOf (WS yX3_slotOf cX3_slotOf 9 (some .int)) { frames := 1, cells := 0, slots := 0, locals := 23 } (PB2 [.ref qa900, .ref qa901, .int zi902] sz G cy ev (va_pl Ls (cellOf cy K ln hp0))) (QBi (S := (Nat → Nat → Value)) (fun (r : Int32) (u : (Nat → Nat → Value)) => Ok K u ∧ Fr [] K hp0 u ∧ ((-1 : Int) ≤ r.toInt ∧ r.toInt ≤ 262143) ∧ (SLr hp0 qa900 qa901 gn zi902 r) ∧ (r.toInt < 2 * (gn : Int))) G (fun u => va_pl Ls (cellOf cy K ln u)) (va_A (va_pl Ls (cellOf cy K ln hp0)) sz)) 0 0 (va_A (va_pl Ls (cellOf cy K ln hp0)) sz) := by
  refine met_of2 (y := yX3_slotOf) (L := 9) (av := [.ref qa900, .ref qa901, .int zi902]) (Qc := fun A => QBi (S := (Nat → Nat → Value)) (fun (r : Int32) (u : (Nat → Nat → Value)) => Ok K u ∧ Fr [] K hp0 u ∧ ((-1 : Int) ≤ r.toInt ∧ r.toInt ≤ 262143) ∧ (SLr hp0 qa900 qa901 gn zi902 r) ∧ (r.toInt < 2 * (gn : Int))) G (fun u => va_pl Ls (cellOf cy K ln u)) A) (plainFor_of_name (by decide)) (Nat.le_of_ble_eq_true rfl) ?_
  intro p e s m below meth c hsz hx hb hr hml hown hT hlocks hin hK A hA hE hw hS ls hl
  have hw : PW G cy K ln Ls A hp0 s.heap := hw
  have hown : s.vm.findClass "LieClock$Nodes" = some m.cls := hown
  have hl : lv_has ls 9 [(0, .ref qa900), (1, .ref qa901), (2, .int zi902)] := hl
  obtain ⟨Q, hQ⟩ : ∃ Q : State → Prop, Q = MQ below (QBi (S := (Nat → Nat → Value)) (fun (r : Int32) (u : (Nat → Nat → Value)) => Ok K u ∧ Fr [] K hp0 u ∧ ((-1 : Int) ≤ r.toInt ∧ r.toInt ≤ 262143) ∧ (SLr hp0 qa900 qa901 gn zi902 r) ∧ (r.toInt < 2 * (gn : Int))) G (fun u => va_pl Ls (cellOf cy K ln u)) A) ([.ref qa900, .ref qa901, .int zi902] : List Value).toArray s 0 0 A := ⟨_, rfl⟩
  rw [← hQ]
  have hgn := NSx.bd pdNS
  refine lv_aload_n hx hb dX3_slotOf_0 rfl (lv_at hl 1 rfl) ?_
  refine kq_i hw hS hA (va_runS (As := [.ref qa901]) (rest := []) ⟨hx, hb, hml, hown, hT⟩ (cX3_packed_0 l G cy ev K ln Ls hW _ hp0 ok0 qa901 kd901) (va_cwS 1 hT (good_S tb_1149 tb_1147 tb_1148 tb_117) rfl rfl rfl (by decide +kernel) ⟨Nat.le_of_ble_eq_true rfl, Nat.le_of_ble_eq_true rfl⟩) (PB2.preS hK hE hS hA hw) rfl rfl hl.1 rfl (lv_room (Nat.le_of_ble_eq_true rfl)) dX3_slotOf_1 ⟨Nat.le_of_ble_eq_true rfl, Nat.le_of_ble_eq_true rfl⟩) (fun zi5 hp1 H locs hq4 hw hS => ?_)
  obtain ⟨ok2, F3, xq6⟩ := hq4
  obtain rfl : hp0 = hp1 := (Fr.nil F3).symm
  have hw : PW G cy K ln Ls A hp0 H := hw
  refine lv_istore_n (lv' := [(3, .int zi5), (0, .ref qa900), (1, .ref qa901), (2, .int zi902)]) hx hb dX3_slotOf_4 rfl hl (by decide) rfl (fun ls hl => ?_)
  refine lv_aload_n hx hb dX3_slotOf_5 rfl (lv_at hl 1 rfl) ?_
  obtain ⟨qa8, eq7, kd9⟩ := rd_4005 ok0 kd900
  have ln10 := (pdNS).tab kd900 eq7
  refine p_get (ci := 3) (v := .ref qa8) (C := RX3) (T := TX3) (N := 7) hx hb hT iw_X3 hown hK hw hW kd900 (by decide) rfl rfl 5 (by decide) eq7 (hT _ tb_502) (fun _ h9 => h9) dX3_slotOf_6 ?_
  obtain ⟨zi11, ez12⟩ : ∃ z : Int32, Int32.ofNat (ln qa8) = z := ⟨_, rfl⟩
  refine p_alen (v := zi11) hx hb hK hw hW kd9 (by decide) rfl rfl ez12 dX3_slotOf_9 ?_
  have hl13 : zi11.toInt = (2 * gn : Nat) := by have h9 := ofNat_len ez12 (by rw [ln10]; omega); rw [ln10] at h9; exact h9
  have bd14 : (512 : Int) ≤ zi11.toInt ∧ zi11.toInt ≤ 262144 := (by omega)
  refine lv_iconst (v := 1) hx hb dX3_slotOf_10 (by decide) ?_
  refine lv_isub hx hb dX3_slotOf_11 (lv_topi (fun zi15 ea16 => ?_))
  have bd17 : (511 : Int) ≤ zi15.toInt ∧ zi15.toInt ≤ 262143 := b_isub ea16 bd14 bc_1 (by decide) (by decide) (by decide) (by decide)
  have qe18 : zi15.toInt = (zi11 : Int32).toInt - (1 : Int32).toInt := e_isub ea16 bd14 bc_1 (by decide) (by decide)
  have qe19 : zi15.toInt = zi11.toInt - 1 := by have ha : (1 : Int32).toInt = 1 := (by decide); rw [ha] at qe18; exact qe18
  refine lv_istore (lv' := [(4, .int zi15), (3, .int zi5), (0, .ref qa900), (1, .ref qa901), (2, .int zi902)]) hx hb dX3_slotOf_12 hl (by decide) rfl (fun ls hl => ?_)
  refine lv_iload_n hx hb dX3_slotOf_14 rfl (lv_at hl 1 rfl) ?_
  refine lv_aload_n hx hb dX3_slotOf_15 rfl (lv_at hl 3 rfl) ?_
  obtain ⟨zi21, eq20⟩ := rd_8000 ok0 kd901
  refine p_getN (ci := 7) (v := .int zi21) (C := RX7) (T := TX7) (N := 13) hx hb hT iw_X7 hown hK hw hW kd901 (by decide) rfl rfl 0 (by decide) eq20 (hK.fl nw_308) (fun _ h9 => h9) dX3_slotOf_16 ?_
  refine lv_aload_n hx hb dX3_slotOf_19 rfl (lv_at hl 3 rfl) ?_
  obtain ⟨zi23, eq22⟩ := rd_8004 ok0 kd901
  refine p_getN (ci := 7) (v := .int zi23) (C := RX7) (T := TX7) (N := 13) hx hb hT iw_X7 hown hK hw hW kd901 (by decide) rfl rfl 4 (by decide) eq22 (hK.fl nw_323) (fun _ h9 => h9) dX3_slotOf_20 ?_
  refine kq_i hw hS hA (va_runS (As := [.int zi5, .int zi21, .int zi23]) (rest := []) ⟨hx, hb, hml, hown, hT⟩ (cX3_hash_0 l G cy ev K ln Ls hW _ hp0 ok0 zi5 zi21 zi23) (va_cwS 3 hT (good_S tb_1152 tb_1150 tb_1151 tb_117) rfl rfl rfl (by decide +kernel) ⟨Nat.le_of_ble_eq_true rfl, Nat.le_of_ble_eq_true rfl⟩) (PB2.preS hK hE hS hA hw) rfl rfl hl.1 rfl (lv_room (Nat.le_of_ble_eq_true rfl)) dX3_slotOf_23 ⟨Nat.le_of_ble_eq_true rfl, Nat.le_of_ble_eq_true rfl⟩) (fun zi28 hp24 H locs hq27 hw hS => ?_)
  obtain ⟨ok25, F26, xq29⟩ := hq27
  obtain rfl : hp0 = hp24 := (Fr.nil F26).symm
  have hw : PW G cy K ln Ls A hp0 H := hw
  refine lv_istore (lv' := [(5, .int zi28), (4, .int zi15), (3, .int zi5), (0, .ref qa900), (1, .ref qa901), (2, .int zi902)]) hx hb dX3_slotOf_26 hl (by decide) rfl (fun ls hl => ?_)
  have hpk : pkf (vI (hp0 qa901 1)) (vI (hp0 qa901 2)) = zi5 := Eq.symm xq6
  have hck : vI (hp0 qa901 0) = zi21 := by rw [eq20]; rfl
  have hhd : vI (hp0 qa901 4) = zi23 := by rw [eq22]; rfl
  have hst : hshf zi5 zi21 zi23 = zi28 := Eq.symm xq29
  have hmk : Int32.ofNat (2 * gn) - 1 = zi15 := by rw [← ln10, ez12]; exact Eq.symm ea16
  refine lv_iconst (v := 0) hx hb dX3_slotOf_28 (by decide) ?_
  refine lv_istore (lv' := [(6, .int 0), (5, .int zi28), (4, .int zi15), (3, .int zi5), (0, .ref qa900), (1, .ref qa901), (2, .int zi902)]) hx hb dX3_slotOf_29 hl (by decide) rfl (fun ls hl => ?_)
  have lp449 : ∀ (n447 : Nat) (zi240 : Int32) (H : Heap) (locs : List Loc) (ls : Array Slot), 262144 - zi240.toInt < (n447 : Int) → ((0 : Int) ≤ zi240.toInt ∧ zi240.toInt ≤ 262144) → (∀ k : Int32, 0 ≤ k.toInt → k.toInt < (zi240 : Int32).toInt → ¬ SLt hp0 qa900 zi902 zi5 zi21 zi23 zi28 zi15 k) → lv_has ls 9 [(0, .ref qa900), (1, .ref qa901), (2, .int zi902), (3, .int zi5), (4, .int zi15), (5, .int zi28), (6, .int zi240)] → PW G cy K ln Ls A hp0 H → va_S A s.heap H locs → W p l e ({ frames := 1, cells := 0, slots := 0, locals := 23 } : Room) s m ([.ref qa900, .ref qa901, .int zi902] : List Value).toArray below meth c H locs 0 0 Q (F0 m 31 ls []) := by
    intro n447
    induction n447 with
    | zero =>
      intro zi240 H locs ls hm450 bd242 jx241 hl hw hS
      exact absurd hm450 (by have := bd242; omega)
    | succ n447 ih448 =>
      intro zi240 H locs ls hm450 bd242 jx241 hl hw hS
      refine lv_iload hx hb dX3_slotOf_31 (lv_at hl 6 rfl) ?_
      refine lv_aload_n hx hb dX3_slotOf_33 rfl (lv_at hl 0 rfl) ?_
      refine p_get (ci := 3) (v := .ref qa8) (C := RX3) (T := TX3) (N := 7) hx hb hT iw_X3 hown hK hw hW kd900 (by decide) rfl rfl 5 (by decide) eq7 (hT _ tb_502) (fun _ h9 => h9) dX3_slotOf_34 ?_
      obtain ⟨zi451, ez452⟩ : ∃ z : Int32, Int32.ofNat (ln qa8) = z := ⟨_, rfl⟩
      refine p_alen (v := zi451) hx hb hK hw hW kd9 (by decide) rfl rfl ez452 dX3_slotOf_37 ?_
      have hl453 : zi451.toInt = (2 * gn : Nat) := by have h9 := ofNat_len ez452 (by rw [ln10]; omega); rw [ln10] at h9; exact h9
      have bd454 : (512 : Int) ≤ zi451.toInt ∧ zi451.toInt ≤ 262144 := (by omega)
      refine lv_icmp_ge (tgt := 121) hx hb dX3_slotOf_38 (by decide) (fun cn455 => ?_) (fun cn455 => ?_)
      · skip
        have tf456 : zi451.toInt ≤ zi240.toInt := (fa_le _ _).mp cn455
        have bd457 : (512 : Int) ≤ zi240.toInt ∧ zi240.toInt ≤ 262144 := r_le_y cn455 bd454 bd242 (by decide) (by decide)
        refine lv_iconst (v := (-1)) hx hb dX3_slotOf_121 (by decide) ?_
        rw [hQ]
        exact kz_i hx hb hr hlocks hS rfl hp0 hw ⟨ok0, (Fr.rf), (b_wid2 bc_m1 (by decide) (by decide)), (by unfold SLr; rw [hpk, hck, hhd, hst, hmk]; exact Or.inr ⟨fun k h1 h2 => jx241 k h1 (by omega), rfl⟩), (by have := toi bc_m1; omega)⟩ (Nat.le_of_ble_eq_true rfl) (Nat.le_of_ble_eq_true rfl) dX3_slotOf_122
      · skip
        have tf458 : zi240.toInt < zi451.toInt := (fa_lt _ _).mp (Int32.not_le.mp cn455)
        have bd459 : (0 : Int) ≤ zi240.toInt ∧ zi240.toInt ≤ 262143 := r_lt_x (Int32.not_le.mp cn455) bd242 bd454 (by decide) (by decide)
        refine lv_iload hx hb dX3_slotOf_41 (lv_at hl 5 rfl) ?_
        refine lv_iload hx hb dX3_slotOf_43 (lv_at hl 6 rfl) ?_
        refine lv_iadd hx hb dX3_slotOf_45 (lv_topi (fun zi460 ea461 => ?_))
        refine lv_iload hx hb dX3_slotOf_46 (lv_at hl 4 rfl) ?_
        refine lv_iand hx hb dX3_slotOf_48 (lv_topi (fun zi462 ea463 => ?_))
        have an464 := b_and_r (c := zi15.toInt) (d := zi15.toInt) (lo := 0) (hi := zi15.toInt) ea463 ⟨Int.le_refl _, Int.le_refl _⟩ (by omega) (by omega) (by omega)
        have bd465 : (0 : Int) ≤ zi462.toInt ∧ zi462.toInt ≤ 262143 := b_and_r ea463 bd17 (by decide) (by decide) (by decide)
        refine lv_istore (lv' := [(7, .int zi462), (0, .ref qa900), (1, .ref qa901), (2, .int zi902), (3, .int zi5), (4, .int zi15), (5, .int zi28), (6, .int zi240)]) hx hb dX3_slotOf_49 hl (by decide) rfl (fun ls hl => ?_)
        refine lv_aload_n hx hb dX3_slotOf_51 rfl (lv_at hl 1 rfl) ?_
        refine p_get (ci := 3) (v := .ref qa8) (C := RX3) (T := TX3) (N := 7) hx hb hT iw_X3 hown hK hw hW kd900 (by decide) rfl rfl 5 (by decide) eq7 (hT _ tb_502) (fun _ h9 => h9) dX3_slotOf_52 ?_
        refine lv_iload hx hb dX3_slotOf_55 (lv_at hl 0 rfl) ?_
        obtain ⟨zi467, eq466, bd468⟩ := rd_33000 ok0 kd9 ((zi462 : Int32).toNatClampNeg)
        have nz469 := (pdNS).elt kd900 eq7 (vp_bv (by omega) (by omega)) eq466
        refine p_iald (v := zi467) hx hb hK hw hW kd9 (by decide) rfl ln10 (vp_bv (by omega) (by omega)) eq466 dX3_slotOf_57 ?_
        refine lv_iconst (v := 1) hx hb dX3_slotOf_58 (by decide) ?_
        refine lv_isub hx hb dX3_slotOf_59 (lv_topi (fun zi470 ea471 => ?_))
        have bd472 : (-1 : Int) ≤ zi470.toInt ∧ zi470.toInt ≤ 131071 := b_isub ea471 bd468 bc_1 (by decide) (by decide) (by decide) (by decide)
        have qe473 : zi470.toInt = (zi467 : Int32).toInt - (1 : Int32).toInt := e_isub ea471 bd468 bc_1 (by decide) (by decide)
        have qe474 : zi470.toInt = zi467.toInt - 1 := by have ha : (1 : Int32).toInt = 1 := (by decide); rw [ha] at qe473; exact qe473
        refine lv_istore (lv' := [(8, .int zi470), (7, .int zi462), (0, .ref qa900), (1, .ref qa901), (2, .int zi902), (3, .int zi5), (4, .int zi15), (5, .int zi28), (6, .int zi240)]) hx hb dX3_slotOf_60 hl (by decide) rfl (fun ls hl => ?_)
        have ht475 : mA hp0 qa900 5 ((zi28 + zi240) &&& zi15).toNatClampNeg = zi467.toInt := by rw [← ea461, ← ea463]; exact mA_of eq7 eq466
        refine lv_iload hx hb dX3_slotOf_62 (lv_at hl 0 rfl) ?_
        refine lv_if_lt (tgt := 112) hx hb dX3_slotOf_64 (by decide) (fun cn476 => ?_) (fun cn476 => ?_)
        · skip
          have bd477 : (-1 : Int) ≤ zi470.toInt ∧ zi470.toInt ≤ -1 := r_lt_x cn476 bd472 bc_0 (by decide) (by decide)
          have bd478 : (0 : Int) ≤ zi467.toInt ∧ zi467.toInt ≤ 0 := (by have := qe474; have := bd477; have := bd468; have := bc_1; omega)
          refine lv_iload hx hb dX3_slotOf_112 (lv_at hl 1 rfl) ?_
          rw [hQ]
          exact kz_i hx hb hr hlocks hS rfl hp0 hw ⟨ok0, (Fr.rf), (b_wid2 bd465 (by decide) (by decide)), (by unfold SLr; rw [hpk, hck, hhd, hst, hmk]; exact Or.inl ⟨zi240, by omega, by omega, jx241, by unfold SLt; rw [ht475]; exact Or.inl (by omega), by rw [← ea461]; exact ea463⟩), (by omega)⟩ (Nat.le_of_ble_eq_true rfl) (Nat.le_of_ble_eq_true rfl) dX3_slotOf_114
        · skip
          have bd479 : (0 : Int) ≤ zi470.toInt ∧ zi470.toInt ≤ 131071 := r_le_y (Int32.not_lt.mp cn476) bc_0 bd472 (by decide) (by decide)
          have bd480 : (1 : Int) ≤ zi467.toInt ∧ zi467.toInt ≤ 131072 := (by have := qe474; have := bd479; have := bd468; have := bc_1; omega)
          refine lv_iload hx hb dX3_slotOf_67 (lv_at hl 0 rfl) ?_
          refine lv_iload_n hx hb dX3_slotOf_69 rfl (lv_at hl 4 rfl) ?_
          refine lv_icmp_lt (tgt := 115) hx hb dX3_slotOf_70 (by decide) (fun cn481 => ?_) (fun cn481 => ?_)
          · skip
            have tf482 : zi470.toInt < zi902.toInt := (fa_lt _ _).mp cn481
            have bd483 : (1 : Int) ≤ zi902.toInt ∧ zi902.toInt ≤ 2147483647 := r_lt_y cn481 bd479 (b_all zi902) (by decide) (by decide)
            obtain ⟨qa486, eq485, kd487⟩ := rd_4000 ok0 kd900
            have ln488 := (pdNS).ref kd900 (by decide) eq485
            have ns484 : ¬ SLt hp0 qa900 zi902 zi5 zi21 zi23 zi28 zi15 zi240 := by
              unfold SLt
              rw [ht475]
              intro q
              rcases q with q | ⟨q1, q2, q3, q4⟩
              · omega
              · omega
            obtain ⟨zi489, ea490⟩ : ∃ z : Int32, z = zi240 + 1 := ⟨_, rfl⟩
            have bd491 : (1 : Int) ≤ zi489.toInt ∧ zi489.toInt ≤ 262144 := b_iadd ea490 bd459 bc_1 (by decide) (by decide) (by decide) (by decide)
            have qe492 : zi489.toInt = (zi240 : Int32).toInt + (1 : Int32).toInt := e_iadd ea490 bd459 bc_1 (by decide) (by decide)
            have qe493 : zi489.toInt = zi240.toInt + 1 := by have ha : (1 : Int32).toInt = 1 := (by decide); rw [ha] at qe492; exact qe492
            refine lv_iinc (v := zi489) (lv' := [(6, .int zi489), (8, .int zi470), (7, .int zi462), (0, .ref qa900), (1, .ref qa901), (2, .int zi902), (3, .int zi5), (4, .int zi15), (5, .int zi28)]) hx hb dX3_slotOf_115 hl (k := 8) rfl ea490.symm (by decide) rfl (fun ls hl => ?_)
            have sj494 := SL_next jx241 ns484 qe493
            refine lv_goto (tgt := 31) hx hb dX3_slotOf_118 (by decide) ?_
            exact ih448 zi489 _ _ ls (by have := hm450; have := qe493; omega) (b_wid2 bd491 (by decide) (by decide)) sj494 (lv_sub hl [3, 4, 5, 6, 7, 8, 0] rfl) hw hS
          · skip
            have tf495 : zi902.toInt ≤ zi470.toInt := (fa_le _ _).mp (Int32.not_lt.mp cn481)
            have bd496 : (-2147483648 : Int) ≤ zi902.toInt ∧ zi902.toInt ≤ 131071 := r_le_x (Int32.not_lt.mp cn481) (b_all zi902) bd479 (by decide) (by decide)
            refine lv_aload_n hx hb dX3_slotOf_73 rfl (lv_at hl 2 rfl) ?_
            obtain ⟨qa498, eq497, kd499⟩ := rd_4000 ok0 kd900
            have ln500 := (pdNS).ref kd900 (by decide) eq497
            refine p_get (ci := 3) (v := .ref qa498) (C := RX3) (T := TX3) (N := 7) hx hb hT iw_X3 hown hK hw hW kd900 (by decide) rfl rfl 0 (by decide) eq497 (hT _ tb_492) (fun _ h9 => h9) dX3_slotOf_74 ?_
            refine lv_iload hx hb dX3_slotOf_77 (lv_at hl 0 rfl) ?_
            obtain ⟨zi502, eq501⟩ := rd_28000 ok0 kd499 ((zi470 : Int32).toNatClampNeg)
            refine p_iald (v := zi502) hx hb hK hw hW kd499 (by decide) rfl ln500 (vp_bv (by omega) (by omega)) eq501 dX3_slotOf_79 ?_
            refine lv_iload_n hx hb dX3_slotOf_80 rfl (lv_at hl 5 rfl) ?_
            refine lv_icmp_ne (tgt := 115) hx hb dX3_slotOf_81 (by decide) (fun cn503 => ?_) (fun cn503 => ?_)
            · skip
              have tf504 : (zi502 : Int32).toInt ≠ (zi5 : Int32).toInt := fun e => cn503 (Int32.toInt_inj.mp e)
              obtain ⟨qa507, eq506, kd508⟩ := rd_4001 ok0 kd900
              have ln509 := (pdNS).ref kd900 (by decide) eq506
              have ns505 : ¬ SLt hp0 qa900 zi902 zi5 zi21 zi23 zi28 zi15 zi240 := by
                unfold SLt
                rw [ht475]
                intro q
                rcases q with q | ⟨q1, q2, q3, q4⟩
                · omega
                · rw [show (zi467.toInt - 1).toNat = (zi470 : Int32).toNatClampNeg from by have := clampN (x := zi470) (by omega); omega, mA_of eq497 eq501] at q2
                  omega
              obtain ⟨zi510, ea511⟩ : ∃ z : Int32, z = zi240 + 1 := ⟨_, rfl⟩
              have bd512 : (1 : Int) ≤ zi510.toInt ∧ zi510.toInt ≤ 262144 := b_iadd ea511 bd459 bc_1 (by decide) (by decide) (by decide) (by decide)
              have qe513 : zi510.toInt = (zi240 : Int32).toInt + (1 : Int32).toInt := e_iadd ea511 bd459 bc_1 (by decide) (by decide)
              have qe514 : zi510.toInt = zi240.toInt + 1 := by have ha : (1 : Int32).toInt = 1 := (by decide); rw [ha] at qe513; exact qe513
              refine lv_iinc (v := zi510) (lv' := [(6, .int zi510), (8, .int zi470), (7, .int zi462), (0, .ref qa900), (1, .ref qa901), (2, .int zi902), (3, .int zi5), (4, .int zi15), (5, .int zi28)]) hx hb dX3_slotOf_115 hl (k := 8) rfl ea511.symm (by decide) rfl (fun ls hl => ?_)
              have sj515 := SL_next jx241 ns505 qe514
              refine lv_goto (tgt := 31) hx hb dX3_slotOf_118 (by decide) ?_
              exact ih448 zi510 _ _ ls (by have := hm450; have := qe514; omega) (b_wid2 bd512 (by decide) (by decide)) sj515 (lv_sub hl [3, 4, 5, 6, 7, 8, 0] rfl) hw hS
            · skip
              have tf516 : zi502.toInt = zi5.toInt := congrArg Int32.toInt cn503
              refine lv_aload_n hx hb dX3_slotOf_84 rfl (lv_at hl 2 rfl) ?_
              obtain ⟨qa518, eq517, kd519⟩ := rd_4001 ok0 kd900
              have ln520 := (pdNS).ref kd900 (by decide) eq517
              refine p_get (ci := 3) (v := .ref qa518) (C := RX3) (T := TX3) (N := 7) hx hb hT iw_X3 hown hK hw hW kd900 (by decide) rfl rfl 1 (by decide) eq517 (hT _ tb_495) (fun _ h9 => h9) dX3_slotOf_85 ?_
              refine lv_iload hx hb dX3_slotOf_88 (lv_at hl 0 rfl) ?_
              obtain ⟨zi522, eq521⟩ := rd_29000 ok0 kd519 ((zi470 : Int32).toNatClampNeg)
              refine p_iald (v := zi522) hx hb hK hw hW kd519 (by decide) rfl ln520 (vp_bv (by omega) (by omega)) eq521 dX3_slotOf_90 ?_
              refine lv_aload_n hx hb dX3_slotOf_91 rfl (lv_at hl 3 rfl) ?_
              refine p_getN (ci := 7) (v := .int zi21) (C := RX7) (T := TX7) (N := 13) hx hb hT iw_X7 hown hK hw hW kd901 (by decide) rfl rfl 0 (by decide) eq20 (hK.fl nw_308) (fun _ h9 => h9) dX3_slotOf_92 ?_
              refine lv_icmp_ne (tgt := 115) hx hb dX3_slotOf_95 (by decide) (fun cn523 => ?_) (fun cn523 => ?_)
              · skip
                have tf524 : (zi522 : Int32).toInt ≠ (zi21 : Int32).toInt := fun e => cn523 (Int32.toInt_inj.mp e)
                obtain ⟨qa527, eq526, kd528⟩ := rd_4002 ok0 kd900
                have ln529 := (pdNS).ref kd900 (by decide) eq526
                have ns525 : ¬ SLt hp0 qa900 zi902 zi5 zi21 zi23 zi28 zi15 zi240 := by
                  unfold SLt
                  rw [ht475]
                  intro q
                  rcases q with q | ⟨q1, q2, q3, q4⟩
                  · omega
                  · rw [show (zi467.toInt - 1).toNat = (zi470 : Int32).toNatClampNeg from by have := clampN (x := zi470) (by omega); omega, mA_of eq497 eq501] at q2
                    rw [show (zi467.toInt - 1).toNat = (zi470 : Int32).toNatClampNeg from by have := clampN (x := zi470) (by omega); omega, mA_of eq517 eq521] at q3
                    omega
                obtain ⟨zi530, ea531⟩ : ∃ z : Int32, z = zi240 + 1 := ⟨_, rfl⟩
                have bd532 : (1 : Int) ≤ zi530.toInt ∧ zi530.toInt ≤ 262144 := b_iadd ea531 bd459 bc_1 (by decide) (by decide) (by decide) (by decide)
                have qe533 : zi530.toInt = (zi240 : Int32).toInt + (1 : Int32).toInt := e_iadd ea531 bd459 bc_1 (by decide) (by decide)
                have qe534 : zi530.toInt = zi240.toInt + 1 := by have ha : (1 : Int32).toInt = 1 := (by decide); rw [ha] at qe533; exact qe533
                refine lv_iinc (v := zi530) (lv' := [(6, .int zi530), (8, .int zi470), (7, .int zi462), (0, .ref qa900), (1, .ref qa901), (2, .int zi902), (3, .int zi5), (4, .int zi15), (5, .int zi28)]) hx hb dX3_slotOf_115 hl (k := 8) rfl ea531.symm (by decide) rfl (fun ls hl => ?_)
                have sj535 := SL_next jx241 ns525 qe534
                refine lv_goto (tgt := 31) hx hb dX3_slotOf_118 (by decide) ?_
                exact ih448 zi530 _ _ ls (by have := hm450; have := qe534; omega) (b_wid2 bd532 (by decide) (by decide)) sj535 (lv_sub hl [3, 4, 5, 6, 7, 8, 0] rfl) hw hS
              · skip
                have tf536 : zi522.toInt = zi21.toInt := congrArg Int32.toInt cn523
                refine lv_aload_n hx hb dX3_slotOf_98 rfl (lv_at hl 2 rfl) ?_
                obtain ⟨qa538, eq537, kd539⟩ := rd_4002 ok0 kd900
                have ln540 := (pdNS).ref kd900 (by decide) eq537
                refine p_get (ci := 3) (v := .ref qa538) (C := RX3) (T := TX3) (N := 7) hx hb hT iw_X3 hown hK hw hW kd900 (by decide) rfl rfl 2 (by decide) eq537 (hT _ tb_497) (fun _ h9 => h9) dX3_slotOf_99 ?_
                refine lv_iload hx hb dX3_slotOf_102 (lv_at hl 0 rfl) ?_
                obtain ⟨zi542, eq541⟩ := rd_30000 ok0 kd539 ((zi470 : Int32).toNatClampNeg)
                refine p_iald (v := zi542) hx hb hK hw hW kd539 (by decide) rfl ln540 (vp_bv (by omega) (by omega)) eq541 dX3_slotOf_104 ?_
                refine lv_aload_n hx hb dX3_slotOf_105 rfl (lv_at hl 3 rfl) ?_
                refine p_getN (ci := 7) (v := .int zi23) (C := RX7) (T := TX7) (N := 13) hx hb hT iw_X7 hown hK hw hW kd901 (by decide) rfl rfl 4 (by decide) eq22 (hK.fl nw_323) (fun _ h9 => h9) dX3_slotOf_106 ?_
                refine lv_icmp_ne (tgt := 115) hx hb dX3_slotOf_109 (by decide) (fun cn543 => ?_) (fun cn543 => ?_)
                · skip
                  have tf544 : (zi542 : Int32).toInt ≠ (zi23 : Int32).toInt := fun e => cn543 (Int32.toInt_inj.mp e)
                  have ns545 : ¬ SLt hp0 qa900 zi902 zi5 zi21 zi23 zi28 zi15 zi240 := by
                    unfold SLt
                    rw [ht475]
                    intro q
                    rcases q with q | ⟨q1, q2, q3, q4⟩
                    · omega
                    · rw [show (zi467.toInt - 1).toNat = (zi470 : Int32).toNatClampNeg from by have := clampN (x := zi470) (by omega); omega, mA_of eq497 eq501] at q2
                      rw [show (zi467.toInt - 1).toNat = (zi470 : Int32).toNatClampNeg from by have := clampN (x := zi470) (by omega); omega, mA_of eq517 eq521] at q3
                      rw [show (zi467.toInt - 1).toNat = (zi470 : Int32).toNatClampNeg from by have := clampN (x := zi470) (by omega); omega, mA_of eq537 eq541] at q4
                      omega
                  obtain ⟨zi546, ea547⟩ : ∃ z : Int32, z = zi240 + 1 := ⟨_, rfl⟩
                  have bd548 : (1 : Int) ≤ zi546.toInt ∧ zi546.toInt ≤ 262144 := b_iadd ea547 bd459 bc_1 (by decide) (by decide) (by decide) (by decide)
                  have qe549 : zi546.toInt = (zi240 : Int32).toInt + (1 : Int32).toInt := e_iadd ea547 bd459 bc_1 (by decide) (by decide)
                  have qe550 : zi546.toInt = zi240.toInt + 1 := by have ha : (1 : Int32).toInt = 1 := (by decide); rw [ha] at qe549; exact qe549
                  refine lv_iinc (v := zi546) (lv' := [(6, .int zi546), (8, .int zi470), (7, .int zi462), (0, .ref qa900), (1, .ref qa901), (2, .int zi902), (3, .int zi5), (4, .int zi15), (5, .int zi28)]) hx hb dX3_slotOf_115 hl (k := 8) rfl ea547.symm (by decide) rfl (fun ls hl => ?_)
                  have sj551 := SL_next jx241 ns545 qe550
                  refine lv_goto (tgt := 31) hx hb dX3_slotOf_118 (by decide) ?_
                  exact ih448 zi546 _ _ ls (by have := hm450; have := qe550; omega) (b_wid2 bd548 (by decide) (by decide)) sj551 (lv_sub hl [3, 4, 5, 6, 7, 8, 0] rfl) hw hS
                · skip
                  have tf552 : zi542.toInt = zi23.toInt := congrArg Int32.toInt cn543
                  refine lv_iload hx hb dX3_slotOf_112 (lv_at hl 1 rfl) ?_
                  rw [hQ]
                  exact kz_i hx hb hr hlocks hS rfl hp0 hw ⟨ok0, (Fr.rf), (b_wid2 bd465 (by decide) (by decide)), (by unfold SLr; rw [hpk, hck, hhd, hst, hmk]; exact Or.inl ⟨zi240, by omega, by omega, jx241, by unfold SLt; rw [ht475]; exact Or.inr ⟨by omega, by rw [show (zi467.toInt - 1).toNat = (zi470 : Int32).toNatClampNeg from by have := clampN (x := zi470) (by omega); omega, mA_of eq497 eq501]; omega, by rw [show (zi467.toInt - 1).toNat = (zi470 : Int32).toNatClampNeg from by have := clampN (x := zi470) (by omega); omega, mA_of eq517 eq521]; omega, by rw [show (zi467.toInt - 1).toNat = (zi470 : Int32).toNatClampNeg from by have := clampN (x := zi470) (by omega); omega, mA_of eq537 eq541]; omega⟩, by rw [← ea461]; exact ea463⟩), (by omega)⟩ (Nat.le_of_ble_eq_true rfl) (Nat.le_of_ble_eq_true rfl) dX3_slotOf_114
  exact lp449 _ 0 _ _ ls (lp_in _) (b_wid2 bc_0 (by decide) (by decide)) (fun k h1 h2 => absurd h2 (by have := toi bc_0; omega)) (lv_sub hl [4, 5, 6, 3, 2, 1, 0] rfl) hw hS
