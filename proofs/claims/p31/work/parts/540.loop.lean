set_option maxRecDepth 100000 in
set_option maxHeartbeats 8000000 in
theorem law_loop {p : Program} {e : Env} {s : State} {m : MethodId} {below : List Frame} {meth : Method} {c : Code} (l : Launch) {b L : Nat} {xs : Nat → Int32} (hL : L ≤ 3072) (hx : p.tables.exec = Jvm.exec) (hb : c.code = code) (hml : c.maxLocals = 4) (hown : s.vm.findClass "LieClockLaw" = some m.cls) (hT : ∀ w ∈ TB, w.before #[Value.ref b] s = true) (hX : va_X b L xs s s.heap) (hbl : b < s.heap.size) (G : va_G) (cy : Nat → ClassId) (ev : Ew) (hK : KK G cy s) (A : Nat → Prop) (hA : ∀ q : Nat, s.heap.size ≤ q → A q) (hbA : ¬ A b) (hE : EW ev A s s.heap) (hr : meth.sig.returnType = ret) (hlocks : meth.locks = false) (hAi : ∀ q : Nat, A q → s.heap.size ≤ q) (K0 ln0 : Nat → Nat) (Ls0 : List Nat) (hW0 : SW K0 ln0 Ls0) (hp0 : Nat → Nat → Value) (ok0 : Ok K0 hp0) (qa900 qa901 : Nat) (km : K0 qa900 = 13) (kx : K0 qa901 = 12) (g0 gn0 : Nat) (hg0 : 256 ≤ g0 ∧ g0 ≤ 131072) (hga0 : g0 ≤ gn0) (pdNS : NSx K0 ln0 hp0 gn0) (pdLW : LW hp0 qa900) (H : Heap) (locs : List Loc) (ls : Array Slot) (hl : lv_has ls 4 [(3, .int 0), (2, .ref qa900), (1, .ref qa901), (0, .ref b)]) (hw : PW G cy K0 ln0 Ls0 A hp0 H) (hS : va_S A s.heap H locs) : W p l e room_1 s m #[Value.ref b] below meth c H locs (400 + (gn0 - g0)) (100000 + 14 * (gn0 - g0)) (lw_Z below #[Value.ref b] s) (F0 m 18 ls []) := by
  obtain ⟨Q, hQ⟩ : ∃ Q : State → Prop, Q = lw_Z below #[Value.ref b] s := ⟨_, rfl⟩
  rw [← hQ]
  obtain ⟨K, ln, Ls, gn, hW, ok1, hga, hge, km, kx, pdNS, hw⟩ : ∃ (K ln : Nat → Nat) (Ls : List Nat) (gn : Nat), SW K ln Ls ∧ Ok K hp0 ∧ g0 ≤ gn ∧ gn = gn0 ∧ K qa900 = 13 ∧ K qa901 = 12 ∧ NSx K ln hp0 gn ∧ PW G cy K ln Ls A hp0 H := ⟨K0, ln0, Ls0, gn0, hW0, ok0, hga0, rfl, km, kx, pdNS, hw⟩
  have hgn := NSx.bd pdNS
  refine W.widen (k := 400 + (gn - g0)) (n := 100000 + 14 * (gn - g0)) (by omega) (by omega) ?_
  have lp151 : ∀ (n149 : Nat) (K ln : Nat → Nat) (Ls : List Nat) (gn : Nat) (hp80 : Nat → Nat → Value) (zi79 : Int32) (H : Heap) (locs : List Loc) (ls : Array Slot), 3072 - zi79.toInt < (n149 : Int) → SW K ln Ls → Ok K hp80 → NSx K ln hp80 gn → g0 ≤ gn → LW hp80 qa900 → K qa900 = 13 → K qa901 = 12 → ((0 : Int) ≤ zi79.toInt ∧ zi79.toInt ≤ 3072) → lv_has ls 4 [(0, .ref b), (1, .ref qa901), (2, .ref qa900), (3, .int zi79)] → PW G cy K ln Ls A hp80 H → va_S A s.heap H locs → W p l e room_1 s m #[Value.ref b] below meth c H locs (400 + (gn - g0)) (100000 + 14 * (gn - g0)) Q (F0 m 18 ls []) := by
    intro n149
    induction n149 with
    | zero =>
      intro K ln Ls gn hp80 zi79 H locs ls hm152 hW ok81 pd82 hga pd83 kd84 kd85 bd86 hl hw hS
      exact absurd hm152 (by have := bd86; omega)
    | succ n149 ih150 =>
      intro K ln Ls gn hp80 zi79 H locs ls hm152 hW ok81 pd82 hga pd83 kd84 kd85 bd86 hl hw hS
      have hgn := NSx.bd pd82
      refine lv_iload_n hx hb dL_law_18 rfl (lv_at hl 3 rfl) ?_
      refine lv_aload_n hx hb dL_law_19 rfl (lv_at hl 0 rfl) ?_
      refine va_slen hx hb hX hbl hbA hS dL_law_20 (lv_topi (fun zi153 ez154 => ?_))
      have hl155 : zi153.toInt = (L : Nat) := ofNat_len ez154.symm (by omega)
      have bd156 : (0 : Int) ≤ zi153.toInt ∧ zi153.toInt ≤ 3072 := (by omega)
      refine lv_bipush (v := 6) hx hb dL_law_21 (by decide) ?_
      refine lv_isub hx hb dL_law_23 (lv_topi (fun zi157 ea158 => ?_))
      have bd159 : (-6 : Int) ≤ zi157.toInt ∧ zi157.toInt ≤ 3066 := b_isub ea158 bd156 bc_6 (by decide) (by decide) (by decide) (by decide)
      have qe160 : zi157.toInt = (zi153 : Int32).toInt - (6 : Int32).toInt := e_isub ea158 bd156 bc_6 (by decide) (by decide)
      have qe161 : zi157.toInt = zi153.toInt - 6 := by have ha : (6 : Int32).toInt = 6 := (by decide); rw [ha] at qe160; exact qe160
      refine lv_icmp_gt (tgt := 1050) hx hb dL_law_24 (by decide) (fun cn162 => ?_) (fun cn162 => ?_)
      · skip
        have tf163 : zi157.toInt < zi79.toInt := (fa_lt _ _).mp cn162
        refine lv_iconst (v := 1) hx hb dL_law_1050 (by decide) ?_
        rw [hQ]
        refine va_forget (fun q hq => hAi _ (hS.2.2 q hq)) ?_
        refine W.widen (k := 600000) (n := 7302250) (by omega) (by omega) ?_
        exact lw_ret hx hb hr hlocks dL_law_1051
      · skip
        have tf164 : zi79.toInt ≤ zi157.toInt := (fa_le _ _).mp (Int32.not_lt.mp cn162)
        have bd165 : (0 : Int) ≤ zi79.toInt ∧ zi79.toInt ≤ 3066 := r_le_x (Int32.not_lt.mp cn162) bd86 bd159 (by decide) (by decide)
        have bd166 : (0 : Int) ≤ zi157.toInt ∧ zi157.toInt ≤ 3066 := r_le_y (Int32.not_lt.mp cn162) bd86 bd159 (by decide) (by decide)
        have bd167 : (6 : Int) ≤ zi153.toInt ∧ zi153.toInt ≤ 3072 := (by have := qe161; have := bd166; have := bd156; have := bc_6; omega)
        refine lv_aload_n hx hb dL_law_27 rfl (lv_at hl 0 rfl) ?_
        refine lv_iload_n hx hb dL_law_28 rfl (lv_at hl 3 rfl) ?_
        refine va_sld hx hb hX hbl hbA hS (vp_bv (by omega) (by omega)) dL_law_29 (lv_topi (fun zi168 ez169 => ?_))
        refine lv_bipush (v := 31) hx hb dL_law_30 (by decide) ?_
        refine lv_iand hx hb dL_law_32 (lv_topi (fun zi170 ea171 => ?_))
        have bd172 : (0 : Int) ≤ zi170.toInt ∧ zi170.toInt ≤ 31 := b_and_r ea171 bc_31 (by decide) (by decide) (by decide)
        have jn179 : ∀ (K ln : Nat → Nat) (Ls : List Nat) (gn : Nat) (hp173 : Nat → Nat → Value)  (H : Heap) (locs : List Loc) (ls : Array Slot), SW K ln Ls → Ok K hp173 → NSx K ln hp173 gn → g0 ≤ gn → LW hp173 qa900 → K qa900 = 13 → K qa901 = 12 → lv_has ls 4 [(0, .ref b), (1, .ref qa901), (2, .ref qa900), (3, .int zi79)] → PW G cy K ln Ls A hp173 H → va_S A s.heap H locs → W p l e room_1 s m #[Value.ref b] below meth c H locs (400 + (gn - g0)) (100000 + 14 * (gn - g0)) Q (F0 m 1044 ls []) := by
          intro K ln Ls gn hp173 H locs ls hW ok174 pd175 hga pd176 kd177 kd178 hl hw hS
          have hgn := NSx.bd pd175
          obtain ⟨zi180, ea181⟩ : ∃ z : Int32, z = zi79 + 6 := ⟨_, rfl⟩
          have bd182 : (6 : Int) ≤ zi180.toInt ∧ zi180.toInt ≤ 3072 := b_iadd ea181 bd165 bc_6 (by decide) (by decide) (by decide) (by decide)
          have qe183 : zi180.toInt = (zi79 : Int32).toInt + (6 : Int32).toInt := e_iadd ea181 bd165 bc_6 (by decide) (by decide)
          have qe184 : zi180.toInt = zi79.toInt + 6 := by have ha : (6 : Int32).toInt = 6 := (by decide); rw [ha] at qe183; exact qe183
          refine lv_iinc (v := zi180) (lv' := [(3, .int zi180), (0, .ref b), (1, .ref qa901), (2, .ref qa900)]) hx hb dL_law_1044 hl (k := 3) rfl ea181.symm (by decide) rfl (fun ls hl => ?_)
          refine lv_goto (tgt := 18) hx hb dL_law_1047 (by decide) ?_
          exact ih150 K ln Ls gn hp173 zi180 _ _ ls (by have := hm152; have := qe184; omega) hW ok174 pd175 (by omega) pd176 kd177 kd178 (b_wid2 bd182 (by decide) (by decide)) (lv_sub hl [1, 2, 3, 0] rfl) hw hS
        by_cases cn0 : zi170 = 0
        · refine lv_tableIn (tgt := 176) hx hb dL_law_33 (by rw [cn0]; decide) (by rw [cn0]; decide) (by rw [cn0]; rfl) (by decide) ?_
          exact law_c_0 l hL hx hb hml hown hT hX hbl G cy ev hK A hA hbA hE K ln Ls hW hp80 ok81 qa900 qa901 kd84 kd85 g0 gn hg0 (by omega) pd82 pd83 zi79 (by omega) (by omega) (fun K ln Ls gn hp H locs ls hW ok NS hga LW km kx hl hw hS => jn179 K ln Ls gn hp H locs ls hW ok NS hga LW km kx (lv_sub hl [0, 1, 2, 3] rfl) hw hS) _ _ ls (lv_sub hl [0, 1, 2, 3] rfl) hw hS
        by_cases cn1 : zi170 = 1
        · refine lv_tableIn (tgt := 239) hx hb dL_law_33 (by rw [cn1]; decide) (by rw [cn1]; decide) (by rw [cn1]; rfl) (by decide) ?_
          exact law_c_1 l hL hx hb hml hown hT hX hbl G cy ev hK A hA hbA hE K ln Ls hW hp80 ok81 qa900 qa901 kd84 kd85 g0 gn hg0 (by omega) pd82 pd83 zi79 (by omega) (by omega) (fun K ln Ls gn hp H locs ls hW ok NS hga LW km kx hl hw hS => jn179 K ln Ls gn hp H locs ls hW ok NS hga LW km kx (lv_sub hl [0, 1, 2, 3] rfl) hw hS) _ _ ls (lv_sub hl [0, 1, 2, 3] rfl) hw hS
        by_cases cn2 : zi170 = 2
        · refine lv_tableIn (tgt := 262) hx hb dL_law_33 (by rw [cn2]; decide) (by rw [cn2]; decide) (by rw [cn2]; rfl) (by decide) ?_
          exact law_c_2 l hL hx hb hml hown hT hX hbl G cy ev hK A hA hbA hE K ln Ls hW hp80 ok81 qa900 qa901 kd84 kd85 g0 gn hg0 (by omega) pd82 pd83 zi79 (by omega) (by omega) (fun K ln Ls gn hp H locs ls hW ok NS hga LW km kx hl hw hS => jn179 K ln Ls gn hp H locs ls hW ok NS hga LW km kx (lv_sub hl [0, 1, 2, 3] rfl) hw hS) _ _ ls (lv_sub hl [0, 1, 2, 3] rfl) hw hS
        by_cases cn3 : zi170 = 3
        · refine lv_tableIn (tgt := 275) hx hb dL_law_33 (by rw [cn3]; decide) (by rw [cn3]; decide) (by rw [cn3]; rfl) (by decide) ?_
          exact law_c_3 l hL hx hb hml hown hT hX hbl G cy ev hK A hA hbA hE K ln Ls hW hp80 ok81 qa900 qa901 kd84 kd85 g0 gn hg0 (by omega) pd82 pd83 zi79 (by omega) (by omega) (fun K ln Ls gn hp H locs ls hW ok NS hga LW km kx hl hw hS => jn179 K ln Ls gn hp H locs ls hW ok NS hga LW km kx (lv_sub hl [0, 1, 2, 3] rfl) hw hS) _ _ ls (lv_sub hl [0, 1, 2, 3] rfl) hw hS
        by_cases cn4 : zi170 = 4
        · refine lv_tableIn (tgt := 288) hx hb dL_law_33 (by rw [cn4]; decide) (by rw [cn4]; decide) (by rw [cn4]; rfl) (by decide) ?_
          exact law_c_4 l hL hx hb hml hown hT hX hbl G cy ev hK A hA hbA hE K ln Ls hW hp80 ok81 qa900 qa901 kd84 kd85 g0 gn hg0 (by omega) pd82 pd83 zi79 (by omega) (by omega) (fun K ln Ls gn hp H locs ls hW ok NS hga LW km kx hl hw hS => jn179 K ln Ls gn hp H locs ls hW ok NS hga LW km kx (lv_sub hl [0, 1, 2, 3] rfl) hw hS) _ _ ls (lv_sub hl [0, 1, 2, 3] rfl) hw hS
        by_cases cn5 : zi170 = 5
        · refine lv_tableIn (tgt := 301) hx hb dL_law_33 (by rw [cn5]; decide) (by rw [cn5]; decide) (by rw [cn5]; rfl) (by decide) ?_
          exact law_c_5 l hL hx hb hml hown hT hX hbl G cy ev hK A hA hbA hE K ln Ls hW hp80 ok81 qa900 qa901 kd84 kd85 g0 gn hg0 (by omega) pd82 pd83 zi79 (by omega) (by omega) (fun K ln Ls gn hp H locs ls hW ok NS hga LW km kx hl hw hS => jn179 K ln Ls gn hp H locs ls hW ok NS hga LW km kx (lv_sub hl [0, 1, 2, 3] rfl) hw hS) _ _ ls (lv_sub hl [0, 1, 2, 3] rfl) hw hS
        by_cases cn6 : zi170 = 6
        · refine lv_tableIn (tgt := 334) hx hb dL_law_33 (by rw [cn6]; decide) (by rw [cn6]; decide) (by rw [cn6]; rfl) (by decide) ?_
          exact law_c_6 l hL hx hb hml hown hT hX hbl G cy ev hK A hA hbA hE K ln Ls hW hp80 ok81 qa900 qa901 kd84 kd85 g0 gn hg0 (by omega) pd82 pd83 zi79 (by omega) (by omega) (fun K ln Ls gn hp H locs ls hW ok NS hga LW km kx hl hw hS => jn179 K ln Ls gn hp H locs ls hW ok NS hga LW km kx (lv_sub hl [0, 1, 2, 3] rfl) hw hS) _ _ ls (lv_sub hl [0, 1, 2, 3] rfl) hw hS
        by_cases cn7 : zi170 = 7
        · refine lv_tableIn (tgt := 367) hx hb dL_law_33 (by rw [cn7]; decide) (by rw [cn7]; decide) (by rw [cn7]; rfl) (by decide) ?_
          exact law_c_7 l hL hx hb hml hown hT hX hbl G cy ev hK A hA hbA hE K ln Ls hW hp80 ok81 qa900 qa901 kd84 kd85 g0 gn hg0 (by omega) pd82 pd83 zi79 (by omega) (by omega) (fun K ln Ls gn hp H locs ls hW ok NS hga LW km kx hl hw hS => jn179 K ln Ls gn hp H locs ls hW ok NS hga LW km kx (lv_sub hl [0, 1, 2, 3] rfl) hw hS) _ _ ls (lv_sub hl [0, 1, 2, 3] rfl) hw hS
        by_cases cn8 : zi170 = 8
        · refine lv_tableIn (tgt := 400) hx hb dL_law_33 (by rw [cn8]; decide) (by rw [cn8]; decide) (by rw [cn8]; rfl) (by decide) ?_
          exact law_c_8 l hL hx hb hml hown hT hX hbl G cy ev hK A hA hbA hE K ln Ls hW hp80 ok81 qa900 qa901 kd84 kd85 g0 gn hg0 (by omega) pd82 pd83 zi79 (by omega) (by omega) (fun K ln Ls gn hp H locs ls hW ok NS hga LW km kx hl hw hS => jn179 K ln Ls gn hp H locs ls hW ok NS hga LW km kx (lv_sub hl [0, 1, 2, 3] rfl) hw hS) _ _ ls (lv_sub hl [0, 1, 2, 3] rfl) hw hS
        by_cases cn9 : zi170 = 9
        · refine lv_tableIn (tgt := 423) hx hb dL_law_33 (by rw [cn9]; decide) (by rw [cn9]; decide) (by rw [cn9]; rfl) (by decide) ?_
          exact law_c_9 l hL hx hb hml hown hT hX hbl G cy ev hK A hA hbA hE K ln Ls hW hp80 ok81 qa900 qa901 kd84 kd85 g0 gn hg0 (by omega) pd82 pd83 zi79 (by omega) (by omega) (fun K ln Ls gn hp H locs ls hW ok NS hga LW km kx hl hw hS => jn179 K ln Ls gn hp H locs ls hW ok NS hga LW km kx (lv_sub hl [0, 1, 2, 3] rfl) hw hS) _ _ ls (lv_sub hl [0, 1, 2, 3] rfl) hw hS
        by_cases cn10 : zi170 = 10
        · refine lv_tableIn (tgt := 456) hx hb dL_law_33 (by rw [cn10]; decide) (by rw [cn10]; decide) (by rw [cn10]; rfl) (by decide) ?_
          exact law_c_10 l hL hx hb hml hown hT hX hbl G cy ev hK A hA hbA hE K ln Ls hW hp80 ok81 qa900 qa901 kd84 kd85 g0 gn hg0 (by omega) pd82 pd83 zi79 (by omega) (by omega) (fun K ln Ls gn hp H locs ls hW ok NS hga LW km kx hl hw hS => jn179 K ln Ls gn hp H locs ls hW ok NS hga LW km kx (lv_sub hl [0, 1, 2, 3] rfl) hw hS) _ _ ls (lv_sub hl [0, 1, 2, 3] rfl) hw hS
        by_cases cn11 : zi170 = 11
        · refine lv_tableIn (tgt := 479) hx hb dL_law_33 (by rw [cn11]; decide) (by rw [cn11]; decide) (by rw [cn11]; rfl) (by decide) ?_
          exact law_c_11 l hL hx hb hml hown hT hX hbl G cy ev hK A hA hbA hE K ln Ls hW hp80 ok81 qa900 qa901 kd84 kd85 g0 gn hg0 (by omega) pd82 pd83 zi79 (by omega) (by omega) (fun K ln Ls gn hp H locs ls hW ok NS hga LW km kx hl hw hS => jn179 K ln Ls gn hp H locs ls hW ok NS hga LW km kx (lv_sub hl [0, 1, 2, 3] rfl) hw hS) _ _ ls (lv_sub hl [0, 1, 2, 3] rfl) hw hS
        by_cases cn12 : zi170 = 12
        · refine lv_tableIn (tgt := 502) hx hb dL_law_33 (by rw [cn12]; decide) (by rw [cn12]; decide) (by rw [cn12]; rfl) (by decide) ?_
          exact law_c_12 l hL hx hb hml hown hT hX hbl G cy ev hK A hA hbA hE K ln Ls hW hp80 ok81 qa900 qa901 kd84 kd85 g0 gn hg0 (by omega) pd82 pd83 zi79 (by omega) (by omega) (fun K ln Ls gn hp H locs ls hW ok NS hga LW km kx hl hw hS => jn179 K ln Ls gn hp H locs ls hW ok NS hga LW km kx (lv_sub hl [0, 1, 2, 3] rfl) hw hS) _ _ ls (lv_sub hl [0, 1, 2, 3] rfl) hw hS
        by_cases cn13 : zi170 = 13
        · refine lv_tableIn (tgt := 525) hx hb dL_law_33 (by rw [cn13]; decide) (by rw [cn13]; decide) (by rw [cn13]; rfl) (by decide) ?_
          exact law_c_13 l hL hx hb hml hown hT hX hbl G cy ev hK A hA hbA hE K ln Ls hW hp80 ok81 qa900 qa901 kd84 kd85 g0 gn hg0 (by omega) pd82 pd83 zi79 (by omega) (by omega) (fun K ln Ls gn hp H locs ls hW ok NS hga LW km kx hl hw hS => jn179 K ln Ls gn hp H locs ls hW ok NS hga LW km kx (lv_sub hl [0, 1, 2, 3] rfl) hw hS) _ _ ls (lv_sub hl [0, 1, 2, 3] rfl) hw hS
        by_cases cn14 : zi170 = 14
        · refine lv_tableIn (tgt := 538) hx hb dL_law_33 (by rw [cn14]; decide) (by rw [cn14]; decide) (by rw [cn14]; rfl) (by decide) ?_
          exact law_c_14 l hL hx hb hml hown hT hX hbl G cy ev hK A hA hbA hE K ln Ls hW hp80 ok81 qa900 qa901 kd84 kd85 g0 gn hg0 (by omega) pd82 pd83 zi79 (by omega) (by omega) (fun K ln Ls gn hp H locs ls hW ok NS hga LW km kx hl hw hS => jn179 K ln Ls gn hp H locs ls hW ok NS hga LW km kx (lv_sub hl [0, 1, 2, 3] rfl) hw hS) _ _ ls (lv_sub hl [0, 1, 2, 3] rfl) hw hS
        by_cases cn15 : zi170 = 15
        · refine lv_tableIn (tgt := 561) hx hb dL_law_33 (by rw [cn15]; decide) (by rw [cn15]; decide) (by rw [cn15]; rfl) (by decide) ?_
          exact law_c_15 l hL hx hb hml hown hT hX hbl G cy ev hK A hA hbA hE K ln Ls hW hp80 ok81 qa900 qa901 kd84 kd85 g0 gn hg0 (by omega) pd82 pd83 zi79 (by omega) (by omega) (fun K ln Ls gn hp H locs ls hW ok NS hga LW km kx hl hw hS => jn179 K ln Ls gn hp H locs ls hW ok NS hga LW km kx (lv_sub hl [0, 1, 2, 3] rfl) hw hS) _ _ ls (lv_sub hl [0, 1, 2, 3] rfl) hw hS
        by_cases cn16 : zi170 = 16
        · refine lv_tableIn (tgt := 604) hx hb dL_law_33 (by rw [cn16]; decide) (by rw [cn16]; decide) (by rw [cn16]; rfl) (by decide) ?_
          exact law_c_16 l hL hx hb hml hown hT hX hbl G cy ev hK A hA hbA hE K ln Ls hW hp80 ok81 qa900 qa901 kd84 kd85 g0 gn hg0 (by omega) pd82 pd83 zi79 (by omega) (by omega) (fun K ln Ls gn hp H locs ls hW ok NS hga LW km kx hl hw hS => jn179 K ln Ls gn hp H locs ls hW ok NS hga LW km kx (lv_sub hl [0, 1, 2, 3] rfl) hw hS) _ _ ls (lv_sub hl [0, 1, 2, 3] rfl) hw hS
        by_cases cn17 : zi170 = 17
        · refine lv_tableIn (tgt := 647) hx hb dL_law_33 (by rw [cn17]; decide) (by rw [cn17]; decide) (by rw [cn17]; rfl) (by decide) ?_
          exact law_c_17 l hL hx hb hml hown hT hX hbl G cy ev hK A hA hbA hE K ln Ls hW hp80 ok81 qa900 qa901 kd84 kd85 g0 gn hg0 (by omega) pd82 pd83 zi79 (by omega) (by omega) (fun K ln Ls gn hp H locs ls hW ok NS hga LW km kx hl hw hS => jn179 K ln Ls gn hp H locs ls hW ok NS hga LW km kx (lv_sub hl [0, 1, 2, 3] rfl) hw hS) _ _ ls (lv_sub hl [0, 1, 2, 3] rfl) hw hS
        by_cases cn18 : zi170 = 18
        · refine lv_tableIn (tgt := 696) hx hb dL_law_33 (by rw [cn18]; decide) (by rw [cn18]; decide) (by rw [cn18]; rfl) (by decide) ?_
          exact law_c_18 l hL hx hb hml hown hT hX hbl G cy ev hK A hA hbA hE K ln Ls hW hp80 ok81 qa900 qa901 kd84 kd85 g0 gn hg0 (by omega) pd82 pd83 zi79 (by omega) (by omega) (fun K ln Ls gn hp H locs ls hW ok NS hga LW km kx hl hw hS => jn179 K ln Ls gn hp H locs ls hW ok NS hga LW km kx (lv_sub hl [0, 1, 2, 3] rfl) hw hS) _ _ ls (lv_sub hl [0, 1, 2, 3] rfl) hw hS
        by_cases cn19 : zi170 = 19
        · refine lv_tableIn (tgt := 755) hx hb dL_law_33 (by rw [cn19]; decide) (by rw [cn19]; decide) (by rw [cn19]; rfl) (by decide) ?_
          exact law_c_19 l hL hx hb hml hown hT hX hbl G cy ev hK A hA hbA hE K ln Ls hW hp80 ok81 qa900 qa901 kd84 kd85 g0 gn hg0 (by omega) pd82 pd83 zi79 (by omega) (by omega) (fun K ln Ls gn hp H locs ls hW ok NS hga LW km kx hl hw hS => jn179 K ln Ls gn hp H locs ls hW ok NS hga LW km kx (lv_sub hl [0, 1, 2, 3] rfl) hw hS) _ _ ls (lv_sub hl [0, 1, 2, 3] rfl) hw hS
        by_cases cn20 : zi170 = 20
        · refine lv_tableIn (tgt := 788) hx hb dL_law_33 (by rw [cn20]; decide) (by rw [cn20]; decide) (by rw [cn20]; rfl) (by decide) ?_
          exact law_c_20 l hL hx hb hml hown hT hX hbl G cy ev hK A hA hbA hE K ln Ls hW hp80 ok81 qa900 qa901 kd84 kd85 g0 gn hg0 (by omega) pd82 pd83 zi79 (by omega) (by omega) (fun K ln Ls gn hp H locs ls hW ok NS hga LW km kx hl hw hS => jn179 K ln Ls gn hp H locs ls hW ok NS hga LW km kx (lv_sub hl [0, 1, 2, 3] rfl) hw hS) _ _ ls (lv_sub hl [0, 1, 2, 3] rfl) hw hS
        by_cases cn21 : zi170 = 21
        · refine lv_tableIn (tgt := 801) hx hb dL_law_33 (by rw [cn21]; decide) (by rw [cn21]; decide) (by rw [cn21]; rfl) (by decide) ?_
          exact law_c_21 l hL hx hb hml hown hT hX hbl G cy ev hK A hA hbA hE K ln Ls hW hp80 ok81 qa900 qa901 kd84 kd85 g0 gn hg0 (by omega) pd82 pd83 zi79 (by omega) (by omega) (fun K ln Ls gn hp H locs ls hW ok NS hga LW km kx hl hw hS => jn179 K ln Ls gn hp H locs ls hW ok NS hga LW km kx (lv_sub hl [0, 1, 2, 3] rfl) hw hS) _ _ ls (lv_sub hl [0, 1, 2, 3] rfl) hw hS
        by_cases cn22 : zi170 = 22
        · refine lv_tableIn (tgt := 824) hx hb dL_law_33 (by rw [cn22]; decide) (by rw [cn22]; decide) (by rw [cn22]; rfl) (by decide) ?_
          exact law_c_22 l hL hx hb hml hown hT hX hbl G cy ev hK A hA hbA hE K ln Ls hW hp80 ok81 qa900 qa901 kd84 kd85 g0 gn hg0 (by omega) pd82 pd83 zi79 (by omega) (by omega) (fun K ln Ls gn hp H locs ls hW ok NS hga LW km kx hl hw hS => jn179 K ln Ls gn hp H locs ls hW ok NS hga LW km kx (lv_sub hl [0, 1, 2, 3] rfl) hw hS) _ _ ls (lv_sub hl [0, 1, 2, 3] rfl) hw hS
        by_cases cn23 : zi170 = 23
        · refine lv_tableIn (tgt := 847) hx hb dL_law_33 (by rw [cn23]; decide) (by rw [cn23]; decide) (by rw [cn23]; rfl) (by decide) ?_
          exact law_c_23 l hL hx hb hml hown hT hX hbl G cy ev hK A hA hbA hE K ln Ls hW hp80 ok81 qa900 qa901 kd84 kd85 g0 gn hg0 (by omega) pd82 pd83 zi79 (by omega) (by omega) (fun K ln Ls gn hp H locs ls hW ok NS hga LW km kx hl hw hS => jn179 K ln Ls gn hp H locs ls hW ok NS hga LW km kx (lv_sub hl [0, 1, 2, 3] rfl) hw hS) _ _ ls (lv_sub hl [0, 1, 2, 3] rfl) hw hS
        by_cases cn24 : zi170 = 24
        · refine lv_tableIn (tgt := 870) hx hb dL_law_33 (by rw [cn24]; decide) (by rw [cn24]; decide) (by rw [cn24]; rfl) (by decide) ?_
          exact law_c_24 l hL hx hb hml hown hT hX hbl G cy ev hK A hA hbA hE K ln Ls hW hp80 ok81 qa900 qa901 kd84 kd85 g0 gn hg0 (by omega) pd82 pd83 zi79 (by omega) (by omega) (fun K ln Ls gn hp H locs ls hW ok NS hga LW km kx hl hw hS => jn179 K ln Ls gn hp H locs ls hW ok NS hga LW km kx (lv_sub hl [0, 1, 2, 3] rfl) hw hS) _ _ ls (lv_sub hl [0, 1, 2, 3] rfl) hw hS
        by_cases cn25 : zi170 = 25
        · refine lv_tableIn (tgt := 893) hx hb dL_law_33 (by rw [cn25]; decide) (by rw [cn25]; decide) (by rw [cn25]; rfl) (by decide) ?_
          exact law_c_25 l hL hx hb hml hown hT hX hbl G cy ev hK A hA hbA hE K ln Ls hW hp80 ok81 qa900 qa901 kd84 kd85 g0 gn hg0 (by omega) pd82 pd83 zi79 (by omega) (by omega) (fun K ln Ls gn hp H locs ls hW ok NS hga LW km kx hl hw hS => jn179 K ln Ls gn hp H locs ls hW ok NS hga LW km kx (lv_sub hl [0, 1, 2, 3] rfl) hw hS) _ _ ls (lv_sub hl [0, 1, 2, 3] rfl) hw hS
        by_cases cn26 : zi170 = 26
        · refine lv_tableIn (tgt := 906) hx hb dL_law_33 (by rw [cn26]; decide) (by rw [cn26]; decide) (by rw [cn26]; rfl) (by decide) ?_
          exact law_c_26 l hL hx hb hml hown hT hX hbl G cy ev hK A hA hbA hE K ln Ls hW hp80 ok81 qa900 qa901 kd84 kd85 g0 gn hg0 (by omega) pd82 pd83 zi79 (by omega) (by omega) (fun K ln Ls gn hp H locs ls hW ok NS hga LW km kx hl hw hS => jn179 K ln Ls gn hp H locs ls hW ok NS hga LW km kx (lv_sub hl [0, 1, 2, 3] rfl) hw hS) _ _ ls (lv_sub hl [0, 1, 2, 3] rfl) hw hS
        by_cases cn27 : zi170 = 27
        · refine lv_tableIn (tgt := 929) hx hb dL_law_33 (by rw [cn27]; decide) (by rw [cn27]; decide) (by rw [cn27]; rfl) (by decide) ?_
          exact law_c_27 l hL hx hb hml hown hT hX hbl G cy ev hK A hA hbA hE K ln Ls hW hp80 ok81 qa900 qa901 kd84 kd85 g0 gn hg0 (by omega) pd82 pd83 zi79 (by omega) (by omega) (fun K ln Ls gn hp H locs ls hW ok NS hga LW km kx hl hw hS => jn179 K ln Ls gn hp H locs ls hW ok NS hga LW km kx (lv_sub hl [0, 1, 2, 3] rfl) hw hS) _ _ ls (lv_sub hl [0, 1, 2, 3] rfl) hw hS
        by_cases cn28 : zi170 = 28
        · refine lv_tableIn (tgt := 952) hx hb dL_law_33 (by rw [cn28]; decide) (by rw [cn28]; decide) (by rw [cn28]; rfl) (by decide) ?_
          exact law_c_28 l hL hx hb hml hown hT hX hbl G cy ev hK A hA hbA hE K ln Ls hW hp80 ok81 qa900 qa901 kd84 kd85 g0 gn hg0 (by omega) pd82 pd83 zi79 (by omega) (by omega) (fun K ln Ls gn hp H locs ls hW ok NS hga LW km kx hl hw hS => jn179 K ln Ls gn hp H locs ls hW ok NS hga LW km kx (lv_sub hl [0, 1, 2, 3] rfl) hw hS) _ _ ls (lv_sub hl [0, 1, 2, 3] rfl) hw hS
        by_cases cn29 : zi170 = 29
        · refine lv_tableIn (tgt := 975) hx hb dL_law_33 (by rw [cn29]; decide) (by rw [cn29]; decide) (by rw [cn29]; rfl) (by decide) ?_
          exact law_c_29 l hL hx hb hml hown hT hX hbl G cy ev hK A hA hbA hE K ln Ls hW hp80 ok81 qa900 qa901 kd84 kd85 g0 gn hg0 (by omega) pd82 pd83 zi79 (by omega) (by omega) (fun K ln Ls gn hp H locs ls hW ok NS hga LW km kx hl hw hS => jn179 K ln Ls gn hp H locs ls hW ok NS hga LW km kx (lv_sub hl [0, 1, 2, 3] rfl) hw hS) _ _ ls (lv_sub hl [0, 1, 2, 3] rfl) hw hS
        by_cases cn30 : zi170 = 30
        · refine lv_tableIn (tgt := 998) hx hb dL_law_33 (by rw [cn30]; decide) (by rw [cn30]; decide) (by rw [cn30]; rfl) (by decide) ?_
          exact law_c_30 l hL hx hb hml hown hT hX hbl G cy ev hK A hA hbA hE K ln Ls hW hp80 ok81 qa900 qa901 kd84 kd85 g0 gn hg0 (by omega) pd82 pd83 zi79 (by omega) (by omega) (fun K ln Ls gn hp H locs ls hW ok NS hga LW km kx hl hw hS => jn179 K ln Ls gn hp H locs ls hW ok NS hga LW km kx (lv_sub hl [0, 1, 2, 3] rfl) hw hS) _ _ ls (lv_sub hl [0, 1, 2, 3] rfl) hw hS
        by_cases cn31 : zi170 = 31
        · refine lv_tableIn (tgt := 1021) hx hb dL_law_33 (by rw [cn31]; decide) (by rw [cn31]; decide) (by rw [cn31]; rfl) (by decide) ?_
          exact law_c_31 l hL hx hb hml hown hT hX hbl G cy ev hK A hA hbA hE K ln Ls hW hp80 ok81 qa900 qa901 kd84 kd85 g0 gn hg0 (by omega) pd82 pd83 zi79 (by omega) (by omega) (fun K ln Ls gn hp H locs ls hW ok NS hga LW km kx hl hw hS => jn179 K ln Ls gn hp H locs ls hW ok NS hga LW km kx (lv_sub hl [0, 1, 2, 3] rfl) hw hS) _ _ ls (lv_sub hl [0, 1, 2, 3] rfl) hw hS
        have nn0 : zi170.toInt ≠ 0 := fun e => cn0 (Int32.toInt_inj.mp (e.trans (by decide)))
        have nn1 : zi170.toInt ≠ 1 := fun e => cn1 (Int32.toInt_inj.mp (e.trans (by decide)))
        have nn2 : zi170.toInt ≠ 2 := fun e => cn2 (Int32.toInt_inj.mp (e.trans (by decide)))
        have nn3 : zi170.toInt ≠ 3 := fun e => cn3 (Int32.toInt_inj.mp (e.trans (by decide)))
        have nn4 : zi170.toInt ≠ 4 := fun e => cn4 (Int32.toInt_inj.mp (e.trans (by decide)))
        have nn5 : zi170.toInt ≠ 5 := fun e => cn5 (Int32.toInt_inj.mp (e.trans (by decide)))
        have nn6 : zi170.toInt ≠ 6 := fun e => cn6 (Int32.toInt_inj.mp (e.trans (by decide)))
        have nn7 : zi170.toInt ≠ 7 := fun e => cn7 (Int32.toInt_inj.mp (e.trans (by decide)))
        have nn8 : zi170.toInt ≠ 8 := fun e => cn8 (Int32.toInt_inj.mp (e.trans (by decide)))
        have nn9 : zi170.toInt ≠ 9 := fun e => cn9 (Int32.toInt_inj.mp (e.trans (by decide)))
        have nn10 : zi170.toInt ≠ 10 := fun e => cn10 (Int32.toInt_inj.mp (e.trans (by decide)))
        have nn11 : zi170.toInt ≠ 11 := fun e => cn11 (Int32.toInt_inj.mp (e.trans (by decide)))
        have nn12 : zi170.toInt ≠ 12 := fun e => cn12 (Int32.toInt_inj.mp (e.trans (by decide)))
        have nn13 : zi170.toInt ≠ 13 := fun e => cn13 (Int32.toInt_inj.mp (e.trans (by decide)))
        have nn14 : zi170.toInt ≠ 14 := fun e => cn14 (Int32.toInt_inj.mp (e.trans (by decide)))
        have nn15 : zi170.toInt ≠ 15 := fun e => cn15 (Int32.toInt_inj.mp (e.trans (by decide)))
        have nn16 : zi170.toInt ≠ 16 := fun e => cn16 (Int32.toInt_inj.mp (e.trans (by decide)))
        have nn17 : zi170.toInt ≠ 17 := fun e => cn17 (Int32.toInt_inj.mp (e.trans (by decide)))
        have nn18 : zi170.toInt ≠ 18 := fun e => cn18 (Int32.toInt_inj.mp (e.trans (by decide)))
        have nn19 : zi170.toInt ≠ 19 := fun e => cn19 (Int32.toInt_inj.mp (e.trans (by decide)))
        have nn20 : zi170.toInt ≠ 20 := fun e => cn20 (Int32.toInt_inj.mp (e.trans (by decide)))
        have nn21 : zi170.toInt ≠ 21 := fun e => cn21 (Int32.toInt_inj.mp (e.trans (by decide)))
        have nn22 : zi170.toInt ≠ 22 := fun e => cn22 (Int32.toInt_inj.mp (e.trans (by decide)))
        have nn23 : zi170.toInt ≠ 23 := fun e => cn23 (Int32.toInt_inj.mp (e.trans (by decide)))
        have nn24 : zi170.toInt ≠ 24 := fun e => cn24 (Int32.toInt_inj.mp (e.trans (by decide)))
        have nn25 : zi170.toInt ≠ 25 := fun e => cn25 (Int32.toInt_inj.mp (e.trans (by decide)))
        have nn26 : zi170.toInt ≠ 26 := fun e => cn26 (Int32.toInt_inj.mp (e.trans (by decide)))
        have nn27 : zi170.toInt ≠ 27 := fun e => cn27 (Int32.toInt_inj.mp (e.trans (by decide)))
        have nn28 : zi170.toInt ≠ 28 := fun e => cn28 (Int32.toInt_inj.mp (e.trans (by decide)))
        have nn29 : zi170.toInt ≠ 29 := fun e => cn29 (Int32.toInt_inj.mp (e.trans (by decide)))
        have nn30 : zi170.toInt ≠ 30 := fun e => cn30 (Int32.toInt_inj.mp (e.trans (by decide)))
        have nn31 : zi170.toInt ≠ 31 := fun e => cn31 (Int32.toInt_inj.mp (e.trans (by decide)))
        exact False.elim (by have := bd172; omega)
  exact lp151 _ K ln Ls gn hp0 0 _ _ ls (lp_in _) hW ok1 pdNS (by omega) pdLW km kx (b_wid2 bc_0 (by decide) (by decide)) (lv_sub hl [3, 2, 1, 0] rfl) hw hS
