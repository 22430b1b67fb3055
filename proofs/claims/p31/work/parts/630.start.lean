theorem arr_prim {ty : FieldType} {s : State} {args : Array Value} (h : (Cond.arrayClass ty).before args s = true) : ∃ cA : ClassId, ArrOfT s cA ty ∧ s.vm.findClass ("[" ++ ty.toString) = some cA := by
  obtain ⟨cA, kA, comp, h1, h2, h3⟩ := Cond.arrayClass_spec h
  exact ⟨cA, fun n z => ⟨fun k h => (by cases h), kA, h2, comp, h3⟩, h1⟩
theorem arr_obj {C : String} {s : State} {args : Array Value} (h : (Cond.arrayOver (.object C)).before args s = true) : ∃ cA : ClassId, ArrOfT s cA (.object C) ∧ va_RA s cA (.object C) := by
  obtain ⟨comp, cA, kA, h1, h2, h3, h4, h5⟩ := Cond.arrayOver_spec h
  exact ⟨cA, fun n z => ⟨fun k h => (by cases h), kA, h3, comp, h4⟩, kA, comp, h3, h4, h1, h5⟩
theorem kk_start {s : State} {args : Array Value} (hT : ∀ w ∈ TB, w.before args s = true) (hN : ∀ w ∈ NWs, w.before args s = true) : ∃ (G : va_G) (cy : Nat → ClassId), KK G cy s := by
  obtain ⟨c0, i0, h0⟩ := u_known (C := RX0) (T := TX0) (N := 8) (n := 8) hT iw_X0 (hT _ tb_584)
  obtain ⟨c1, i1, h1⟩ := u_known (C := RX1) (T := TX1) (N := 8) (n := 8) hT iw_X1 (hT _ tb_621)
  obtain ⟨c2, i2, h2⟩ := u_known (C := RX2) (T := TX2) (N := 5) (n := 5) hT iw_X2 (hT _ tb_159)
  obtain ⟨c3, i3, h3⟩ := u_known (C := RX3) (T := TX3) (N := 7) (n := 7) hT iw_X3 (hT _ tb_487)
  obtain ⟨c4, i4, h4⟩ := u_known (C := RX4) (T := TX4) (N := 8) (n := 8) hT iw_X4 (hT _ tb_548)
  obtain ⟨c5, i5, h5⟩ := u_known (C := RX5) (T := TX5) (N := 7) (n := 7) hT iw_X5 (hT _ tb_289)
  obtain ⟨c6, i6, h6⟩ := u_known (C := RX6) (T := TX6) (N := 6) (n := 6) hT iw_X6 (hT _ tb_523)
  obtain ⟨c7, i7, h7⟩ := u_known (C := RX7) (T := TX7) (N := 13) (n := 13) hT iw_X7 (hT _ tb_406)
  obtain ⟨c8, i8, h8⟩ := u_known (C := RX8) (T := TX8) (N := 2) (n := 2) hT iw_X8 (hT _ tb_137)
  obtain ⟨c9, i9, h9⟩ := u_known (C := RX9) (T := TX9) (N := 5) (n := 5) hT iw_X9 (hT _ tb_295)
  obtain ⟨c10, i10, h10⟩ := u_known (C := RX10) (T := TX10) (N := 20) (n := 20) hT iw_X10 (hT _ tb_153)
  obtain ⟨c11, i11, h11⟩ := u_known (C := RX11) (T := TX11) (N := 17) (n := 17) hT iw_X11 (hT _ tb_129)
  obtain ⟨c12, i12, h12⟩ := u_known (C := RX12) (T := TX12) (N := 69) (n := 69) hT iw_X12 (hT _ tb_1362)
  obtain ⟨b0, g0, e0⟩ := arr_prim (hT _ tb_151)
  obtain ⟨b1, g1, e1⟩ := arr_prim (hT _ tb_182)
  obtain ⟨b2, g2, e2⟩ := arr_prim (hT _ tb_181)
  obtain ⟨b3, g3, e3⟩ := arr_prim (hT _ tb_521)
  obtain ⟨b4, g4, e4⟩ := arr_obj (hN _ nw_380)
  obtain ⟨b5, g5, e5⟩ := arr_obj (hN _ nw_381)
  refine ⟨(fun k => ([c0, c1, c2, c3, c4, c5, c6, c7, c8, c9, c10, c11, c12] : List ClassId).getD k c0, fun k => ([i0, i1, i2, i3, i4, i5, i6, i7, i8, i9, i10, i11, i12] : List (Nat → Nat)).getD k i0), fun k => ([b0, b1, b2, b3, b4, b5] : List ClassId).getD k b0, ⟨fun k q hq => ?_, fun k q hq => ?_⟩, fun w hw => ?_⟩
  · match k, hq with
    | 0, hq => cases hq; exact h0
    | 1, hq => cases hq; exact h1
    | 2, hq => cases hq; exact h2
    | 3, hq => cases hq; exact h3
    | 4, hq => cases hq; exact h4
    | 5, hq => cases hq; exact h5
    | 6, hq => cases hq; exact h6
    | 7, hq => cases hq; exact h7
    | 8, hq => cases hq; exact h8
    | 9, hq => cases hq; exact h9
    | 10, hq => cases hq; exact h10
    | 11, hq => cases hq; exact h11
    | 12, hq => cases hq; exact h12
    | k + 13, hq => simp [vwCl] at hq
  · match k, hq with
    | 0, hq => cases hq; exact ⟨g0, e0⟩
    | 1, hq => cases hq; exact ⟨g1, e1⟩
    | 2, hq => cases hq; exact ⟨g2, e2⟩
    | 3, hq => cases hq; exact ⟨g3, e3⟩
    | 4, hq => cases hq; exact ⟨g4, e4⟩
    | 5, hq => cases hq; exact ⟨g5, e5⟩
    | k + 6, hq => simp [TY] at hq
  · have h1 := hN w hw
    have h2 := (List.mem_filter.mp hw).2
    cases w with
    | fieldLinkNest => exact va_Nw.of rfl h1
    | methodLinkNest => exact va_Nw.of rfl h1
    | arrayOver t =>
      cases t with
      | object C => exact va_AO.use (A := #[]) (va_AO.of h1)
      | _ => cases h2
    | _ => cases h2
set_option maxRecDepth 100000 in
set_option maxHeartbeats 4000000 in
theorem ev_start {s : State} {args : Array Value} (hts : ∀ w ∈ lw_tbl, w.before args s = true) (hgv : (Jvm.Cond.and given_1 narrow_1).before args s = true) : ∃ ev : Ev, EV ev (fun q : Nat => s.heap.size ≤ q) s s.heap := by
  have hs := flat_of_before _ hgv
  have hA : ∀ a : Nat, a < s.heap.size → ¬ (fun q : Nat => s.heap.size ≤ q) a := fun a h => Nat.not_le.mpr h
  have k0 : ∀ j, j < 91 → Cond.eq (.elem (.field (Term.string "LieClock$Tokens" 25) "java/lang/String" "value" "[B") (.int (Int32.ofNat j))) (.int ((bytS.getD 0 []).getD j 0)) ∈ flatC (Jvm.Cond.and given_1 narrow_1) := by decide +kernel
  have k1 : ∀ j, j < 8 → Cond.eq (.elem (.field (Term.string "LieClock$Tokens" 80) "java/lang/String" "value" "[B") (.int (Int32.ofNat j))) (.int ((bytS.getD 1 []).getD j 0)) ∈ flatC (Jvm.Cond.and given_1 narrow_1) := by decide +kernel
  obtain ⟨adK, adV, hS, hev⟩ := vk_Sof (args := args) (s := s) (N := 2) (tm := fun i => match i with | 0 => Term.string "LieClock$Tokens" 25 | _ => Term.string "LieClock$Tokens" 80) (len := lenS) (byt := bytS) (A := fun q : Nat => s.heap.size ≤ q) (fun i hi => by match i, hi with | 0, _ => exact by decide | 1, _ => exact by decide | n + 2, h => exact absurd h (by omega)) (fun i hi => by match i, hi with | 0, _ => exact hs _ (by decide +kernel) | 1, _ => exact hs _ (by decide +kernel) | n + 2, h => exact absurd h (by omega)) (fun i hi => by match i, hi with | 0, _ => exact hs _ (by decide +kernel) | 1, _ => exact hs _ (by decide +kernel) | n + 2, h => exact absurd h (by omega)) (fun i hi => by match i, hi with | 0, _ => exact hs _ (by decide +kernel) | 1, _ => exact hs _ (by decide +kernel) | n + 2, h => exact absurd h (by omega)) (fun i hi => by match i, hi with | 0, _ => exact hs _ (by decide +kernel) | 1, _ => exact hs _ (by decide +kernel) | n + 2, h => exact absurd h (by omega)) (fun i hi => by match i, hi with | 0, _ => exact fun j hj => hs _ (k0 j hj) | 1, _ => exact fun j hj => hs _ (k1 j hj) | n + 2, h => exact absurd h (by omega)) (fun i j hi hj hij => by
    match i, j, hi, hj, hij with
    | 0, 0, _, _, h => exact absurd rfl h
    | 1, 1, _, _, h => exact absurd rfl h
    | 0, 1, _, _, _ => first | exact Or.inl (hs _ (by decide +kernel)) | exact Or.inr (hs _ (by decide +kernel))
    | 1, 0, _, _, _ => first | exact Or.inl (hs _ (by decide +kernel)) | exact Or.inr (hs _ (by decide +kernel))
    | n + 2, _, h, _, _ => exact absurd h (by omega)
    | _, n + 2, _, h, _ => exact absurd h (by omega)) hA
  refine ⟨(adK, adV), hS, va_Zof (hts _ (List.mem_append_right _ (List.mem_of_getElem? (i := 206) (by decide +kernel)))) (hts _ (List.mem_append_right _ (List.mem_of_getElem? (i := 7) (by decide +kernel)))) (va_eqi (hs _ (by decide +kernel))) hA, va_Zqof (hts _ (List.mem_append_right _ (List.mem_of_getElem? (i := 222) (by decide +kernel)))) (hts _ (List.mem_append_right _ (List.mem_of_getElem? (i := 9) (by decide +kernel)))) (hs _ (by decide +kernel)) hA, vk_R.of (hts (Cond.stringRef "LieClock$Tokens" 25 _) (List.mem_append_right _ (List.mem_of_getElem? (i := 196) (by decide +kernel)))) (hev 0 (by decide)), vk_R.of (hts (Cond.stringRef "LieClock$Tokens" 80 _) (List.mem_append_right _ (List.mem_of_getElem? (i := 667) (by decide +kernel)))) (hev 1 (by decide))⟩
def whT : List Int64 := [-6148914691236517206, -3689348814741910324, -1085102592571150096, -71777214294589696, -281470681808896, -4294967296]
theorem ew_start {s : State} {args : Array Value} (hts : ∀ w ∈ lw_tbl, w.before args s = true) (hgv : (Jvm.Cond.and given_1 narrow_1).before args s = true) : ∃ ev : Ew, EW ev (fun q : Nat => s.heap.size ≤ q) s s.heap := by
  obtain ⟨ev, hE⟩ := ev_start hts hgv
  have hs := flat_of_before _ hgv
  have hA : ∀ a : Nat, a < s.heap.size → ¬ (fun q : Nat => s.heap.size ≤ q) a := fun a h => Nat.not_le.mpr h
  have k0 : ∀ j, j < 6 → Cond.eq (.elem (Term.static "LieClock" "WHERE_TRUE" "[J") (.int (Int32.ofNat j))) (.long (whT.getD j 0)) ∈ flatC (Jvm.Cond.and given_1 narrow_1) := by decide +kernel
  obtain ⟨t, ht, hT⟩ := va_Tof (args := args) (s := s) (tm := Term.static "LieClock" "WHERE_TRUE" "[J") (ty := .long) (N := 6) (f := fun j => .long (whT.getD j 0)) (A := fun q : Nat => s.heap.size ≤ q) (by decide) (hs _ (by decide +kernel)) (va_eqt (hs _ (by decide +kernel))) (fun j hj => va_eqtl (hs _ (k0 j hj))) hA
  exact ⟨(ev, t, fun j => whT.getD j 0), hE, va_Zof (hts _ (List.mem_append_right _ (List.mem_of_getElem? (i := 376) (by decide +kernel)))) (hts _ (List.mem_append_right _ (List.mem_of_getElem? (i := 1) (by decide +kernel)))) ht hA, hT⟩
