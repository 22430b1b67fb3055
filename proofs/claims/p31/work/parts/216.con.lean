set_option maxRecDepth 100000 in
set_option maxHeartbeats 4000000 in
theorem cX12_place_0 (l : Launch) (G : va_G) (cy : Nat → ClassId) (ev : Ew) (K ln : Nat → Nat) (Ls : List Nat) (hW : SW K ln Ls) (sz : Nat) (hp0 : Nat → Nat → Value) (ok0 : Ok K hp0) (qa900 : Nat) (kd900 : K qa900 = 13) : Met l yX12_place (WS yX12_place cX12_place 1 (some .int)) { frames := 0, cells := 0, slots := 0, locals := 0 } (PB2 [.ref qa900] sz G cy ev (va_pl Ls (cellOf cy K ln hp0))) (QBi (S := (Nat → Nat → Value)) (fun (r : Int32) (u : (Nat → Nat → Value)) => Ok K u ∧ Fr [] K hp0 u) G (fun u => va_pl Ls (cellOf cy K ln u)) (va_A (va_pl Ls (cellOf cy K ln hp0)) sz)) 0 0 (va_A (va_pl Ls (cellOf cy K ln hp0)) sz) := by
  refine met_of2 (y := yX12_place) (L := 1) (av := [.ref qa900]) (Qc := fun A => QBi (S := (Nat → Nat → Value)) (fun (r : Int32) (u : (Nat → Nat → Value)) => Ok K u ∧ Fr [] K hp0 u) G (fun u => va_pl Ls (cellOf cy K ln u)) A) (plainFor_of_name (by decide)) (Nat.le_of_ble_eq_true rfl) ?_
  intro p e s m below meth c hsz hx hb hr hml hown hT hlocks hin hK A hA hE hw hS ls hl
  have hw : PW G cy K ln Ls A hp0 s.heap := hw
  have hown : s.vm.findClass "LieClockModel" = some m.cls := hown
  have hl : lv_has ls 1 [(0, .ref qa900)] := hl
  obtain ⟨Q, hQ⟩ : ∃ Q : State → Prop, Q = MQ below (QBi (S := (Nat → Nat → Value)) (fun (r : Int32) (u : (Nat → Nat → Value)) => Ok K u ∧ Fr [] K hp0 u) G (fun u => va_pl Ls (cellOf cy K ln u)) A) ([.ref qa900] : List Value).toArray s 0 0 A := ⟨_, rfl⟩
  rw [← hQ]
  refine lv_aload_n hx hb dX12_place_0 rfl (lv_at hl 0 rfl) ?_
  obtain ⟨zi2, eq1⟩ := rd_13017 ok0 kd900
  refine p_get (ci := 12) (v := .int zi2) (C := RX12) (T := TX12) (N := 69) hx hb hT iw_X12 hown hK hw hW kd900 (by decide) rfl rfl 17 (by decide) eq1 (hT _ tb_1391) (fun _ h9 => h9) dX12_place_1 ?_
  rw [hQ]
  exact kz_i hx hb hr hlocks hS rfl hp0 hw ⟨ok0, (Fr.rf)⟩ (Nat.le_of_ble_eq_true rfl) (Nat.le_of_ble_eq_true rfl) dX12_place_4

set_option maxRecDepth 100000 in
set_option maxHeartbeats 4000000 in
theorem cX12_termOf_0 (l : Launch) (G : va_G) (cy : Nat → ClassId) (ev : Ew) (K ln : Nat → Nat) (Ls : List Nat) (hW : SW K ln Ls) (sz : Nat) (hp0 : Nat → Nat → Value) (ok0 : Ok K hp0) (qa900 : Nat) (zi901 : Int32) (zi902 : Int32) (kd900 : K qa900 = 13) (bd901 : ((0 : Int) ≤ zi901.toInt ∧ zi901.toInt ≤ 840)) (bd902 : ((0 : Int) ≤ zi902.toInt ∧ zi902.toInt ≤ 840)) (xp0 : CFm hp0 qa900 zi901 zi902) : Met l yX12_termOf (WS yX12_termOf cX12_termOf 8 (some .int)) { frames := 0, cells := 0, slots := 0, locals := 0 } (PB2 [.ref qa900, .int zi901, .int zi902] sz G cy ev (va_pl Ls (cellOf cy K ln hp0))) (QBi (S := (Nat → Nat → Value)) (fun (r : Int32) (u : (Nat → Nat → Value)) => Ok K u ∧ Fr [13048, 91000] K hp0 u) G (fun u => va_pl Ls (cellOf cy K ln u)) (va_A (va_pl Ls (cellOf cy K ln hp0)) sz)) 0 0 (va_A (va_pl Ls (cellOf cy K ln hp0)) sz) := by
  refine met_of2 (y := yX12_termOf) (L := 8) (av := [.ref qa900, .int zi901, .int zi902]) (Qc := fun A => QBi (S := (Nat → Nat → Value)) (fun (r : Int32) (u : (Nat → Nat → Value)) => Ok K u ∧ Fr [13048, 91000] K hp0 u) G (fun u => va_pl Ls (cellOf cy K ln u)) A) (plainFor_of_name (by decide)) (Nat.le_of_ble_eq_true rfl) ?_
  intro p e s m below meth c hsz hx hb hr hml hown hT hlocks hin hK A hA hE hw hS ls hl
  have hw : PW G cy K ln Ls A hp0 s.heap := hw
  have hown : s.vm.findClass "LieClockModel" = some m.cls := hown
  have hl : lv_has ls 8 [(0, .ref qa900), (1, .int zi901), (2, .int zi902)] := hl
  obtain ⟨Q, hQ⟩ : ∃ Q : State → Prop, Q = MQ below (QBi (S := (Nat → Nat → Value)) (fun (r : Int32) (u : (Nat → Nat → Value)) => Ok K u ∧ Fr [13048, 91000] K hp0 u) G (fun u => va_pl Ls (cellOf cy K ln u)) A) ([.ref qa900, .int zi901, .int zi902] : List Value).toArray s 0 0 A := ⟨_, rfl⟩
  rw [← hQ]
  obtain ⟨qa2, eq1, kd3⟩ := rd_13039 ok0 kd900
  obtain ⟨qa5, eq4, kd6⟩ := rd_13040 ok0 kd900
  refine lv_iconst (v := 0) hx hb dX12_termOf_0 (by decide) ?_
  refine lv_istore_n (lv' := [(3, .int 0), (0, .ref qa900), (1, .int zi901), (2, .int zi902)]) hx hb dX12_termOf_1 rfl hl (by decide) rfl (fun ls hl => ?_)
  refine lv_iload_n hx hb dX12_termOf_2 rfl (lv_at hl 2 rfl) ?_
  refine lv_istore (lv' := [(4, .int zi901), (3, .int 0), (0, .ref qa900), (1, .int zi901), (2, .int zi902)]) hx hb dX12_termOf_3 hl (by decide) rfl (fun ls hl => ?_)
  have lp845 : ∀ (n843 : Nat) (hp513 : Nat → Nat → Value) (zi511 : Int32) (zi512 : Int32) (H : Heap) (locs : List Loc) (ls : Array Slot), 840 - zi512.toInt < (n843 : Int) → Ok K hp513 → Fr [91000] K hp0 hp513 → ((0 : Int) ≤ zi511.toInt ∧ zi511.toInt ≤ 41) → ((0 : Int) ≤ zi512.toInt ∧ zi512.toInt ≤ 840) → (∃ n : Nat, (zi512 : Int32).toInt = zi901.toInt + n ∧ (zi511 : Int32).toInt = dep (mA hp0 qa900 39) zi901.toNatClampNeg n) → lv_has ls 8 [(0, .ref qa900), (2, .int zi902), (3, .int zi511), (4, .int zi512)] → PW G cy K ln Ls A hp513 H → va_S A s.heap H locs → W p l e ({ frames := 0, cells := 0, slots := 0, locals := 0 } : Room) s m ([.ref qa900, .int zi901, .int zi902] : List Value).toArray below meth c H locs 0 0 Q (F0 m 5 ls []) := by
    intro n843
    induction n843 with
    | zero =>
      intro hp513 zi511 zi512 H locs ls hm846 ok515 F514 bd517 bd518 jx516 hl hw hS
      exact absurd hm846 (by have := bd518; omega)
    | succ n843 ih844 =>
      intro hp513 zi511 zi512 H locs ls hm846 ok515 F514 bd517 bd518 jx516 hl hw hS
      obtain ⟨gn847, ga848, gb849⟩ := jx516
      refine lv_iload hx hb dX12_termOf_5 (lv_at hl 3 rfl) ?_
      refine lv_iload_n hx hb dX12_termOf_7 rfl (lv_at hl 1 rfl) ?_
      refine lv_icmp_ge (tgt := 165) hx hb dX12_termOf_8 (by decide) (fun cn850 => ?_) (fun cn850 => ?_)
      · skip
        have tf851 : zi902.toInt ≤ zi512.toInt := (fa_le _ _).mp cn850
        refine lv_aload_n hx hb dX12_termOf_165 rfl (lv_at hl 0 rfl) ?_
        obtain ⟨qa853, eq852, kd854⟩ := rd_13047 ok515 kd900
        refine p_get (ci := 12) (v := .ref qa853) (C := RX12) (T := TX12) (N := 69) hx hb hT iw_X12 hown hK hw hW kd900 (by decide) rfl rfl 47 (by decide) eq852 (hT _ tb_1421) (fun _ h9 => h9) dX12_termOf_166 ?_
        refine lv_iconst (v := 0) hx hb dX12_termOf_169 (by decide) ?_
        obtain ⟨zi856, eq855⟩ := rd_91000 ok515 kd854 ((0 : Int32).toNatClampNeg)
        refine p_iald (v := zi856) hx hb hK hw hW kd854 (by decide) rfl (hW.len kd854 (n := 400) rfl (by decide)) (vp_b bc_0 (by decide) (by decide)) eq855 dX12_termOf_170 ?_
        rw [hQ]
        exact kz_i hx hb hr hlocks hS rfl hp513 hw ⟨ok515, (Fr.tr (Fr.rf) F514 (by decide))⟩ (Nat.le_of_ble_eq_true rfl) (Nat.le_of_ble_eq_true rfl) dX12_termOf_171
      · skip
        have tf857 : zi512.toInt < zi902.toInt := (fa_lt _ _).mp (Int32.not_le.mp cn850)
        have bd858 : (0 : Int) ≤ zi512.toInt ∧ zi512.toInt ≤ 839 := r_lt_x (Int32.not_le.mp cn850) bd518 bd902 (by decide) (by decide)
        have bd859 : (1 : Int) ≤ zi902.toInt ∧ zi902.toInt ≤ 840 := r_lt_y (Int32.not_le.mp cn850) bd518 bd902 (by decide) (by decide)
        have gk860 : gn847 < (zi902.toInt - zi901.toInt).toNat := by omega
        refine lv_aload_n hx hb dX12_termOf_11 rfl (lv_at hl 0 rfl) ?_
        have eq861 : hp513 qa900 39 = .ref qa2 := Eq.trans (Fr.at (cq := 13039) F514 kd900 (cd_o (by decide)) (by decide)) eq1
        refine p_get (ci := 12) (v := .ref qa2) (C := RX12) (T := TX12) (N := 69) hx hb hT iw_X12 hown hK hw hW kd900 (by decide) rfl rfl 39 (by decide) eq861 (hT _ tb_1413) (fun _ h9 => h9) dX12_termOf_12 ?_
        refine lv_iload hx hb dX12_termOf_15 (lv_at hl 3 rfl) ?_
        obtain ⟨zi863, eq862, bd864⟩ := rd_84000 ok515 kd3 ((zi512 : Int32).toNatClampNeg)
        refine p_iald (v := zi863) hx hb hK hw hW kd3 (by decide) rfl (hW.len kd3 (n := 840) rfl (by decide)) (vp_b bd858 (by decide) (by decide)) eq862 dX12_termOf_17 ?_
        refine lv_istore (lv' := [(5, .int zi863), (0, .ref qa900), (2, .int zi902), (3, .int zi511), (4, .int zi512)]) hx hb dX12_termOf_18 hl (by decide) rfl (fun ls hl => ?_)
        have g0865 : hp0 qa2 (zi512 : Int32).toNatClampNeg = .int zi863 := Eq.trans (Eq.symm (Fr.at (cq := 84000) (show Fr [91000] K hp0 hp513 from (Fr.tr (Fr.rf) F514 (by decide))) kd3 (cd_a (by decide)) (by decide))) eq862
        have g1866 : zi901.toNatClampNeg + gn847 = (zi512 : Int32).toNatClampNeg := by have h8 := clampN (x := zi901) xp0.1; have h9 := clampN (x := zi512) (by have := xp0.1; omega); omega
        have g2867 : mA hp0 qa900 39 (zi901.toNatClampNeg + gn847) = zi863.toInt := by rw [g1866]; exact mA_of eq1 g0865
        refine lv_iload hx hb dX12_termOf_20 (lv_at hl 0 rfl) ?_
        refine lv_iconst (v := 2) hx hb dX12_termOf_22 (by decide) ?_
        refine lv_icmp_ge (tgt := 65) hx hb dX12_termOf_23 (by decide) (fun cn868 => ?_) (fun cn868 => ?_)
        · skip
          have bd869 : (2 : Int) ≤ zi863.toInt ∧ zi863.toInt ≤ 5 := r_le_y cn868 bc_2 bd864 (by decide) (by decide)
          have gp870 := cf_op xp0.2.2.2 gk860 (by rw [g2867]; have := bd869; omega)
          have bd871 : (2 : Int) ≤ zi511.toInt ∧ zi511.toInt ≤ 40 := (by have := gp870.1; omega)
          obtain ⟨zi872, ea873⟩ : ∃ z : Int32, z = zi511 + (-1) := ⟨_, rfl⟩
          have bd874 : (1 : Int) ≤ zi872.toInt ∧ zi872.toInt ≤ 39 := b_iadd ea873 bd871 bc_m1 (by decide) (by decide) (by decide) (by decide)
          have qe875 : zi872.toInt = (zi511 : Int32).toInt + ((-1) : Int32).toInt := e_iadd ea873 bd871 bc_m1 (by decide) (by decide)
          have qe876 : zi872.toInt = zi511.toInt + (-1) := by have ha : ((-1) : Int32).toInt = (-1) := (by decide); rw [ha] at qe875; exact qe875
          refine lv_iinc (v := zi872) (lv' := [(3, .int zi872), (5, .int zi863), (0, .ref qa900), (2, .int zi902), (4, .int zi512)]) hx hb dX12_termOf_65 hl (k := 3) rfl ea873.symm (by decide) rfl (fun ls hl => ?_)
          refine lv_aload_n hx hb dX12_termOf_68 rfl (lv_at hl 2 rfl) ?_
          obtain ⟨qa878, eq877, kd879⟩ := rd_13047 ok515 kd900
          refine p_get (ci := 12) (v := .ref qa878) (C := RX12) (T := TX12) (N := 69) hx hb hT iw_X12 hown hK hw hW kd900 (by decide) rfl rfl 47 (by decide) eq877 (hT _ tb_1421) (fun _ h9 => h9) dX12_termOf_69 ?_
          refine lv_iload_n hx hb dX12_termOf_72 rfl (lv_at hl 0 rfl) ?_
          refine lv_iconst (v := 1) hx hb dX12_termOf_73 (by decide) ?_
          refine lv_isub hx hb dX12_termOf_74 (lv_topi (fun zi880 ea881 => ?_))
          have bd882 : (0 : Int) ≤ zi880.toInt ∧ zi880.toInt ≤ 38 := b_isub ea881 bd874 bc_1 (by decide) (by decide) (by decide) (by decide)
          have qe883 : zi880.toInt = (zi872 : Int32).toInt - (1 : Int32).toInt := e_isub ea881 bd874 bc_1 (by decide) (by decide)
          have qe884 : zi880.toInt = zi872.toInt - 1 := by have ha : (1 : Int32).toInt = 1 := (by decide); rw [ha] at qe883; exact qe883
          obtain ⟨zi886, eq885⟩ := rd_91000 ok515 kd879 ((zi880 : Int32).toNatClampNeg)
          refine p_iald (v := zi886) hx hb hK hw hW kd879 (by decide) rfl (hW.len kd879 (n := 400) rfl (by decide)) (vp_b bd882 (by decide) (by decide)) eq885 dX12_termOf_75 ?_
          refine lv_istore (lv' := [(6, .int zi886), (3, .int zi872), (5, .int zi863), (0, .ref qa900), (2, .int zi902), (4, .int zi512)]) hx hb dX12_termOf_76 hl (by decide) rfl (fun ls hl => ?_)
          refine lv_aload_n hx hb dX12_termOf_78 rfl (lv_at hl 3 rfl) ?_
          refine p_get (ci := 12) (v := .ref qa878) (C := RX12) (T := TX12) (N := 69) hx hb hT iw_X12 hown hK hw hW kd900 (by decide) rfl rfl 47 (by decide) eq877 (hT _ tb_1421) (fun _ h9 => h9) dX12_termOf_79 ?_
          refine lv_iload_n hx hb dX12_termOf_82 rfl (lv_at hl 1 rfl) ?_
          obtain ⟨zi888, eq887⟩ := rd_91000 ok515 kd879 ((zi872 : Int32).toNatClampNeg)
          refine p_iald (v := zi888) hx hb hK hw hW kd879 (by decide) rfl (hW.len kd879 (n := 400) rfl (by decide)) (vp_b bd874 (by decide) (by decide)) eq887 dX12_termOf_83 ?_
          refine lv_istore (lv' := [(7, .int zi888), (6, .int zi886), (3, .int zi872), (5, .int zi863), (0, .ref qa900), (2, .int zi902), (4, .int zi512)]) hx hb dX12_termOf_84 hl (by decide) rfl (fun ls hl => ?_)
          refine lv_iload hx hb dX12_termOf_86 (lv_at hl 3 rfl) ?_
          refine lv_iconst (v := 5) hx hb dX12_termOf_88 (by decide) ?_
          refine lv_icmp_ne (tgt := 104) hx hb dX12_termOf_89 (by decide) (fun cn889 => ?_) (fun cn889 => ?_)
          · skip
            have tf890 : (zi863 : Int32).toInt ≠ (5 : Int32).toInt := fun e => cn889 (Int32.toInt_inj.mp e)
            have := toi bc_5
            have bd891 : (2 : Int) ≤ zi863.toInt ∧ zi863.toInt ≤ 4 := r_ne_hi cn889 bd869 (toi bc_5) (by decide) (by decide)
            refine lv_aload_n hx hb dX12_termOf_104 rfl (lv_at hl 4 rfl) ?_
            refine p_get (ci := 12) (v := .ref qa878) (C := RX12) (T := TX12) (N := 69) hx hb hT iw_X12 hown hK hw hW kd900 (by decide) rfl rfl 47 (by decide) eq877 (hT _ tb_1421) (fun _ h9 => h9) dX12_termOf_105 ?_
            refine lv_iload_n hx hb dX12_termOf_108 rfl (lv_at hl 2 rfl) ?_
            refine lv_iconst (v := 1) hx hb dX12_termOf_109 (by decide) ?_
            refine lv_isub hx hb dX12_termOf_110 (lv_topi (fun zi892 ea893 => ?_))
            have bd894 : (0 : Int) ≤ zi892.toInt ∧ zi892.toInt ≤ 38 := b_isub ea893 bd874 bc_1 (by decide) (by decide) (by decide) (by decide)
            have qe895 : zi892.toInt = (zi872 : Int32).toInt - (1 : Int32).toInt := e_isub ea893 bd874 bc_1 (by decide) (by decide)
            have qe896 : zi892.toInt = zi872.toInt - 1 := by have ha : (1 : Int32).toInt = 1 := (by decide); rw [ha] at qe895; exact qe895
            refine lv_iload hx hb dX12_termOf_111 (lv_at hl 3 rfl) ?_
            refine lv_iconst (v := 2) hx hb dX12_termOf_113 (by decide) ?_
            refine lv_icmp_ne (tgt := 125) hx hb dX12_termOf_114 (by decide) (fun cn897 => ?_) (fun cn897 => ?_)
            · skip
              have tf898 : (zi863 : Int32).toInt ≠ (2 : Int32).toInt := fun e => cn897 (Int32.toInt_inj.mp e)
              have := toi bc_2
              have bd899 : (3 : Int) ≤ zi863.toInt ∧ zi863.toInt ≤ 4 := r_ne_lo cn897 bd891 (toi bc_2) (by decide) (by decide)
              refine lv_iload hx hb dX12_termOf_125 (lv_at hl 3 rfl) ?_
              refine lv_iconst (v := 3) hx hb dX12_termOf_127 (by decide) ?_
              refine lv_icmp_ne (tgt := 139) hx hb dX12_termOf_128 (by decide) (fun cn900 => ?_) (fun cn900 => ?_)
              · skip
                have tf901 : (zi863 : Int32).toInt ≠ (3 : Int32).toInt := fun e => cn900 (Int32.toInt_inj.mp e)
                have := toi bc_3
                have bd902 : (4 : Int) ≤ zi863.toInt ∧ zi863.toInt ≤ 4 := r_ne_lo cn900 bd899 (toi bc_3) (by decide) (by decide)
                refine lv_iload hx hb dX12_termOf_139 (lv_at hl 3 rfl) ?_
                refine lv_iconst (v := 4) hx hb dX12_termOf_141 (by decide) ?_
                refine lv_icmp_ne (tgt := 153) hx hb dX12_termOf_142 (by decide) (fun c => absurd (d_eq bd902 bc_4) c) (fun _ => ?_)
                refine lv_iload hx hb dX12_termOf_145 (lv_at hl 1 rfl) ?_
                refine lv_iload hx hb dX12_termOf_147 (lv_at hl 0 rfl) ?_
                refine lv_imul hx hb dX12_termOf_149 (lv_topi (fun zi903 ea904 => ?_))
                refine lv_goto (tgt := 158) hx hb dX12_termOf_150 (by decide) ?_
                refine p_iast (x := zi903) hx hb hK hw hS hW kd879 (by decide) rfl (hW.len kd879 (n := 400) rfl (by decide)) (vp_b bd894 (by decide) (by decide)) dX12_termOf_158 (fun hp905 eh906 H locs hw hS => ?_)
                have ok907 := wr_91000 ok515 kd879 eh906
                obtain ⟨zi908, ea909⟩ : ∃ z : Int32, z = zi512 + 1 := ⟨_, rfl⟩
                have bd910 : (1 : Int) ≤ zi908.toInt ∧ zi908.toInt ≤ 840 := b_iadd ea909 bd858 bc_1 (by decide) (by decide) (by decide) (by decide)
                have qe911 : zi908.toInt = (zi512 : Int32).toInt + (1 : Int32).toInt := e_iadd ea909 bd858 bc_1 (by decide) (by decide)
                have qe912 : zi908.toInt = zi512.toInt + 1 := by have ha : (1 : Int32).toInt = 1 := (by decide); rw [ha] at qe911; exact qe911
                refine lv_iinc (v := zi908) (lv' := [(4, .int zi908), (7, .int zi888), (6, .int zi886), (3, .int zi872), (5, .int zi863), (0, .ref qa900), (2, .int zi902)]) hx hb dX12_termOf_159 hl (k := 6) rfl ea909.symm (by decide) rfl (fun ls hl => ?_)
                refine lv_goto (tgt := 5) hx hb dX12_termOf_162 (by decide) ?_
                exact ih844 hp905 zi872 zi908 _ _ ls (by have := hm846; have := qe912; omega) ok907 (Fr.put (cq := 91000) (Fr.tr (Fr.rf) F514 (by decide)) eh906 kd879 (cd_a (by decide)) (by decide)) (b_wid2 bd874 (by decide) (by decide)) (b_wid2 bd910 (by decide) (by decide)) ⟨gn847 + 1, by have := toi bc_1; omega, by rw [gp870.2]; omega⟩ (lv_sub hl [5, 6, 3, 0] rfl) hw hS
              · skip
                have bd913 : (3 : Int) ≤ zi863.toInt ∧ zi863.toInt ≤ 3 := r_eq_x cn900 bd899 bc_3 (by decide) (by decide)
                refine lv_iload hx hb dX12_termOf_131 (lv_at hl 1 rfl) ?_
                refine lv_iload hx hb dX12_termOf_133 (lv_at hl 0 rfl) ?_
                refine lv_isub hx hb dX12_termOf_135 (lv_topi (fun zi914 ea915 => ?_))
                refine lv_goto (tgt := 158) hx hb dX12_termOf_136 (by decide) ?_
                refine p_iast (x := zi914) hx hb hK hw hS hW kd879 (by decide) rfl (hW.len kd879 (n := 400) rfl (by decide)) (vp_b bd894 (by decide) (by decide)) dX12_termOf_158 (fun hp916 eh917 H locs hw hS => ?_)
                have ok918 := wr_91000 ok515 kd879 eh917
                obtain ⟨zi919, ea920⟩ : ∃ z : Int32, z = zi512 + 1 := ⟨_, rfl⟩
                have bd921 : (1 : Int) ≤ zi919.toInt ∧ zi919.toInt ≤ 840 := b_iadd ea920 bd858 bc_1 (by decide) (by decide) (by decide) (by decide)
                have qe922 : zi919.toInt = (zi512 : Int32).toInt + (1 : Int32).toInt := e_iadd ea920 bd858 bc_1 (by decide) (by decide)
                have qe923 : zi919.toInt = zi512.toInt + 1 := by have ha : (1 : Int32).toInt = 1 := (by decide); rw [ha] at qe922; exact qe922
                refine lv_iinc (v := zi919) (lv' := [(4, .int zi919), (7, .int zi888), (6, .int zi886), (3, .int zi872), (5, .int zi863), (0, .ref qa900), (2, .int zi902)]) hx hb dX12_termOf_159 hl (k := 6) rfl ea920.symm (by decide) rfl (fun ls hl => ?_)
                refine lv_goto (tgt := 5) hx hb dX12_termOf_162 (by decide) ?_
                exact ih844 hp916 zi872 zi919 _ _ ls (by have := hm846; have := qe923; omega) ok918 (Fr.put (cq := 91000) (Fr.tr (Fr.rf) F514 (by decide)) eh917 kd879 (cd_a (by decide)) (by decide)) (b_wid2 bd874 (by decide) (by decide)) (b_wid2 bd921 (by decide) (by decide)) ⟨gn847 + 1, by have := toi bc_1; omega, by rw [gp870.2]; omega⟩ (lv_sub hl [5, 6, 3, 0] rfl) hw hS
            · skip
              have bd924 : (2 : Int) ≤ zi863.toInt ∧ zi863.toInt ≤ 2 := r_eq_x cn897 bd891 bc_2 (by decide) (by decide)
              refine lv_iload hx hb dX12_termOf_117 (lv_at hl 1 rfl) ?_
              refine lv_iload hx hb dX12_termOf_119 (lv_at hl 0 rfl) ?_
              refine lv_iadd hx hb dX12_termOf_121 (lv_topi (fun zi925 ea926 => ?_))
              refine lv_goto (tgt := 158) hx hb dX12_termOf_122 (by decide) ?_
              refine p_iast (x := zi925) hx hb hK hw hS hW kd879 (by decide) rfl (hW.len kd879 (n := 400) rfl (by decide)) (vp_b bd894 (by decide) (by decide)) dX12_termOf_158 (fun hp927 eh928 H locs hw hS => ?_)
              have ok929 := wr_91000 ok515 kd879 eh928
              obtain ⟨zi930, ea931⟩ : ∃ z : Int32, z = zi512 + 1 := ⟨_, rfl⟩
              have bd932 : (1 : Int) ≤ zi930.toInt ∧ zi930.toInt ≤ 840 := b_iadd ea931 bd858 bc_1 (by decide) (by decide) (by decide) (by decide)
              have qe933 : zi930.toInt = (zi512 : Int32).toInt + (1 : Int32).toInt := e_iadd ea931 bd858 bc_1 (by decide) (by decide)
              have qe934 : zi930.toInt = zi512.toInt + 1 := by have ha : (1 : Int32).toInt = 1 := (by decide); rw [ha] at qe933; exact qe933
              refine lv_iinc (v := zi930) (lv' := [(4, .int zi930), (7, .int zi888), (6, .int zi886), (3, .int zi872), (5, .int zi863), (0, .ref qa900), (2, .int zi902)]) hx hb dX12_termOf_159 hl (k := 6) rfl ea931.symm (by decide) rfl (fun ls hl => ?_)
              refine lv_goto (tgt := 5) hx hb dX12_termOf_162 (by decide) ?_
              exact ih844 hp927 zi872 zi930 _ _ ls (by have := hm846; have := qe934; omega) ok929 (Fr.put (cq := 91000) (Fr.tr (Fr.rf) F514 (by decide)) eh928 kd879 (cd_a (by decide)) (by decide)) (b_wid2 bd874 (by decide) (by decide)) (b_wid2 bd932 (by decide) (by decide)) ⟨gn847 + 1, by have := toi bc_1; omega, by rw [gp870.2]; omega⟩ (lv_sub hl [5, 6, 3, 0] rfl) hw hS
          · skip
            have bd935 : (5 : Int) ≤ zi863.toInt ∧ zi863.toInt ≤ 5 := r_eq_x cn889 bd869 bc_5 (by decide) (by decide)
            refine lv_iload hx hb dX12_termOf_92 (lv_at hl 0 rfl) ?_
            refine lv_if_ne (tgt := 104) hx hb dX12_termOf_94 (by decide) (fun cn936 => ?_) (fun cn936 => ?_)
            · skip
              have tf937 : (zi888 : Int32).toInt ≠ (0 : Int32).toInt := fun e => cn936 (Int32.toInt_inj.mp e)
              have := toi bc_0
              refine lv_aload_n hx hb dX12_termOf_104 rfl (lv_at hl 4 rfl) ?_
              refine p_get (ci := 12) (v := .ref qa878) (C := RX12) (T := TX12) (N := 69) hx hb hT iw_X12 hown hK hw hW kd900 (by decide) rfl rfl 47 (by decide) eq877 (hT _ tb_1421) (fun _ h9 => h9) dX12_termOf_105 ?_
              refine lv_iload_n hx hb dX12_termOf_108 rfl (lv_at hl 2 rfl) ?_
              refine lv_iconst (v := 1) hx hb dX12_termOf_109 (by decide) ?_
              refine lv_isub hx hb dX12_termOf_110 (lv_topi (fun zi938 ea939 => ?_))
              have bd940 : (0 : Int) ≤ zi938.toInt ∧ zi938.toInt ≤ 38 := b_isub ea939 bd874 bc_1 (by decide) (by decide) (by decide) (by decide)
              have qe941 : zi938.toInt = (zi872 : Int32).toInt - (1 : Int32).toInt := e_isub ea939 bd874 bc_1 (by decide) (by decide)
              have qe942 : zi938.toInt = zi872.toInt - 1 := by have ha : (1 : Int32).toInt = 1 := (by decide); rw [ha] at qe941; exact qe941
              refine lv_iload hx hb dX12_termOf_111 (lv_at hl 3 rfl) ?_
              refine lv_iconst (v := 2) hx hb dX12_termOf_113 (by decide) ?_
              refine lv_icmp_ne (tgt := 125) hx hb dX12_termOf_114 (by decide) (fun _ => ?_) (fun c => absurd c (d_ne bd935 bc_2 (by decide)))
              refine lv_iload hx hb dX12_termOf_125 (lv_at hl 3 rfl) ?_
              refine lv_iconst (v := 3) hx hb dX12_termOf_127 (by decide) ?_
              refine lv_icmp_ne (tgt := 139) hx hb dX12_termOf_128 (by decide) (fun _ => ?_) (fun c => absurd c (d_ne bd935 bc_3 (by decide)))
              refine lv_iload hx hb dX12_termOf_139 (lv_at hl 3 rfl) ?_
              refine lv_iconst (v := 4) hx hb dX12_termOf_141 (by decide) ?_
              refine lv_icmp_ne (tgt := 153) hx hb dX12_termOf_142 (by decide) (fun _ => ?_) (fun c => absurd c (d_ne bd935 bc_4 (by decide)))
              refine lv_iload hx hb dX12_termOf_153 (lv_at hl 1 rfl) ?_
              refine lv_iload hx hb dX12_termOf_155 (lv_at hl 0 rfl) ?_
              refine lv_idiv hx hb dX12_termOf_157 cn936 (lv_topi (fun zi943 ea944 => ?_))
              refine p_iast (x := zi943) hx hb hK hw hS hW kd879 (by decide) rfl (hW.len kd879 (n := 400) rfl (by decide)) (vp_b bd940 (by decide) (by decide)) dX12_termOf_158 (fun hp945 eh946 H locs hw hS => ?_)
              have ok947 := wr_91000 ok515 kd879 eh946
              obtain ⟨zi948, ea949⟩ : ∃ z : Int32, z = zi512 + 1 := ⟨_, rfl⟩
              have bd950 : (1 : Int) ≤ zi948.toInt ∧ zi948.toInt ≤ 840 := b_iadd ea949 bd858 bc_1 (by decide) (by decide) (by decide) (by decide)
              have qe951 : zi948.toInt = (zi512 : Int32).toInt + (1 : Int32).toInt := e_iadd ea949 bd858 bc_1 (by decide) (by decide)
              have qe952 : zi948.toInt = zi512.toInt + 1 := by have ha : (1 : Int32).toInt = 1 := (by decide); rw [ha] at qe951; exact qe951
              refine lv_iinc (v := zi948) (lv' := [(4, .int zi948), (7, .int zi888), (6, .int zi886), (3, .int zi872), (5, .int zi863), (0, .ref qa900), (2, .int zi902)]) hx hb dX12_termOf_159 hl (k := 6) rfl ea949.symm (by decide) rfl (fun ls hl => ?_)
              refine lv_goto (tgt := 5) hx hb dX12_termOf_162 (by decide) ?_
              exact ih844 hp945 zi872 zi948 _ _ ls (by have := hm846; have := qe952; omega) ok947 (Fr.put (cq := 91000) (Fr.tr (Fr.rf) F514 (by decide)) eh946 kd879 (cd_a (by decide)) (by decide)) (b_wid2 bd874 (by decide) (by decide)) (b_wid2 bd950 (by decide) (by decide)) ⟨gn847 + 1, by have := toi bc_1; omega, by rw [gp870.2]; omega⟩ (lv_sub hl [5, 6, 3, 0] rfl) hw hS
            · skip
              have bd953 : (0 : Int) ≤ zi888.toInt ∧ zi888.toInt ≤ 0 := r_eq_x cn936 (b_all zi888) bc_0 (by decide) (by decide)
              refine lv_aload_n hx hb dX12_termOf_97 rfl (lv_at hl 4 rfl) ?_
              refine lv_iconst (v := 1) hx hb dX12_termOf_98 (by decide) ?_
              refine p_put (ci := 12) (v := .int 1) (ty := .boolean) (C := RX12) (T := TX12) (N := 69) hx hb hT iw_X12 tyX12 tyX12_ok nmX12 hown hK hw hS hW kd900 (by decide) rfl rfl 48 (by decide) (hT _ tb_1422) (fun _ h9 => h9) rfl (by decide +kernel) (nz_n bc_1 (by decide) (by decide)) (nz_f bc_1 (by decide) (by decide)) dX12_termOf_99 (fun hp954 eh955 H locs hw hS => ?_)
              have ok956 := wr_13048 bc_1 (by decide) (by decide) ok515 kd900 eh955
              refine lv_iconst (v := 0) hx hb dX12_termOf_102 (by decide) ?_
              rw [hQ]
              exact kz_i hx hb hr hlocks hS rfl hp954 hw ⟨ok956, (Fr.put (cq := 13048) (Fr.tr (Fr.rf) F514 (by decide)) eh955 kd900 (cd_o (by decide)) (by decide))⟩ (Nat.le_of_ble_eq_true rfl) (Nat.le_of_ble_eq_true rfl) dX12_termOf_103
        · skip
          have bd957 : (0 : Int) ≤ zi863.toInt ∧ zi863.toInt ≤ 1 := r_lt_x (Int32.not_le.mp cn868) bd864 bc_2 (by decide) (by decide)
          have gp958 := cf_push xp0.2.2.2 gk860 (by rw [g2867]; have := bd957; omega)
          have bd959 : (0 : Int) ≤ zi511.toInt ∧ zi511.toInt ≤ 40 := (by have := gp958.1; omega)
          refine lv_aload_n hx hb dX12_termOf_26 rfl (lv_at hl 1 rfl) ?_
          obtain ⟨qa961, eq960, kd962⟩ := rd_13047 ok515 kd900
          refine p_get (ci := 12) (v := .ref qa961) (C := RX12) (T := TX12) (N := 69) hx hb hT iw_X12 hown hK hw hW kd900 (by decide) rfl rfl 47 (by decide) eq960 (hT _ tb_1421) (fun _ h9 => h9) dX12_termOf_27 ?_
          refine lv_iload_n hx hb dX12_termOf_30 rfl (lv_at hl 3 rfl) ?_
          refine lv_iload hx hb dX12_termOf_31 (lv_at hl 0 rfl) ?_
          refine lv_if_ne (tgt := 46) hx hb dX12_termOf_33 (by decide) (fun cn963 => ?_) (fun cn963 => ?_)
          · skip
            have tf964 : (zi863 : Int32).toInt ≠ (0 : Int32).toInt := fun e => cn963 (Int32.toInt_inj.mp e)
            have := toi bc_0
            have bd965 : (1 : Int) ≤ zi863.toInt ∧ zi863.toInt ≤ 1 := r_ne_lo cn963 bd957 (toi bc_0) (by decide) (by decide)
            refine lv_aload_n hx hb dX12_termOf_46 rfl (lv_at hl 1 rfl) ?_
            obtain ⟨qa967, eq966, kd968⟩ := rd_13046 ok515 kd900
            refine p_get (ci := 12) (v := .ref qa967) (C := RX12) (T := TX12) (N := 69) hx hb hT iw_X12 hown hK hw hW kd900 (by decide) rfl rfl 46 (by decide) eq966 (hT _ tb_1420) (fun _ h9 => h9) dX12_termOf_47 ?_
            refine lv_aload_n hx hb dX12_termOf_50 rfl (lv_at hl 1 rfl) ?_
            have eq969 : hp513 qa900 40 = .ref qa5 := Eq.trans (Fr.at (cq := 13040) F514 kd900 (cd_o (by decide)) (by decide)) eq4
            refine p_get (ci := 12) (v := .ref qa5) (C := RX12) (T := TX12) (N := 69) hx hb hT iw_X12 hown hK hw hW kd900 (by decide) rfl rfl 40 (by decide) eq969 (hT _ tb_1414) (fun _ h9 => h9) dX12_termOf_51 ?_
            refine lv_iload hx hb dX12_termOf_54 (lv_at hl 4 rfl) ?_
            obtain ⟨zi971, eq970⟩ := rd_85000 ok515 kd6 ((zi512 : Int32).toNatClampNeg)
            refine p_iald (v := zi971) hx hb hK hw hW kd6 (by decide) rfl (hW.len kd6 (n := 840) rfl (by decide)) (vp_b bd858 (by decide) (by decide)) eq970 dX12_termOf_56 ?_
            have g0972 : hp0 qa5 (zi512 : Int32).toNatClampNeg = .int zi971 := Eq.trans (Eq.symm (Fr.at (cq := 85000) (show Fr [91000] K hp0 hp513 from (Fr.tr (Fr.rf) F514 (by decide))) kd6 (cd_a (by decide)) (by decide))) eq970
            have g1973 : zi901.toNatClampNeg + gn847 = (zi512 : Int32).toNatClampNeg := by have h8 := clampN (x := zi901) xp0.1; have h9 := clampN (x := zi512) (by have := xp0.1; omega); omega
            have g2974 : mA hp0 qa900 40 (zi901.toNatClampNeg + gn847) = zi971.toInt := by rw [g1973]; exact mA_of eq4 g0972
            have gv975 := cf_var xp0.2.2.2 gk860 (by rw [g2867]; have := bd965; omega) (by rw [g2867]; have := bd965; omega)
            rw [g2974] at gv975
            have bd976 : (0 : Int) ≤ zi971.toInt ∧ zi971.toInt ≤ 4 := (by omega)
            obtain ⟨zi978, eq977⟩ := rd_90000 ok515 kd968 ((zi971 : Int32).toNatClampNeg)
            refine p_iald (v := zi978) hx hb hK hw hW kd968 (by decide) rfl (hW.len kd968 (n := 5) rfl (by decide)) (vp_b bd976 (by decide) (by decide)) eq977 dX12_termOf_57 ?_
            refine p_iast (x := zi978) hx hb hK hw hS hW kd962 (by decide) rfl (hW.len kd962 (n := 400) rfl (by decide)) (vp_b bd959 (by decide) (by decide)) dX12_termOf_58 (fun hp979 eh980 H locs hw hS => ?_)
            have ok981 := wr_91000 ok515 kd962 eh980
            obtain ⟨zi982, ea983⟩ : ∃ z : Int32, z = zi511 + 1 := ⟨_, rfl⟩
            have bd984 : (1 : Int) ≤ zi982.toInt ∧ zi982.toInt ≤ 41 := b_iadd ea983 bd959 bc_1 (by decide) (by decide) (by decide) (by decide)
            have qe985 : zi982.toInt = (zi511 : Int32).toInt + (1 : Int32).toInt := e_iadd ea983 bd959 bc_1 (by decide) (by decide)
            have qe986 : zi982.toInt = zi511.toInt + 1 := by have ha : (1 : Int32).toInt = 1 := (by decide); rw [ha] at qe985; exact qe985
            refine lv_iinc (v := zi982) (lv' := [(3, .int zi982), (5, .int zi863), (0, .ref qa900), (2, .int zi902), (4, .int zi512)]) hx hb dX12_termOf_59 hl (k := 3) rfl ea983.symm (by decide) rfl (fun ls hl => ?_)
            refine lv_goto (tgt := 159) hx hb dX12_termOf_62 (by decide) ?_
            obtain ⟨zi987, ea988⟩ : ∃ z : Int32, z = zi512 + 1 := ⟨_, rfl⟩
            have bd989 : (1 : Int) ≤ zi987.toInt ∧ zi987.toInt ≤ 840 := b_iadd ea988 bd858 bc_1 (by decide) (by decide) (by decide) (by decide)
            have qe990 : zi987.toInt = (zi512 : Int32).toInt + (1 : Int32).toInt := e_iadd ea988 bd858 bc_1 (by decide) (by decide)
            have qe991 : zi987.toInt = zi512.toInt + 1 := by have ha : (1 : Int32).toInt = 1 := (by decide); rw [ha] at qe990; exact qe990
            refine lv_iinc (v := zi987) (lv' := [(4, .int zi987), (3, .int zi982), (5, .int zi863), (0, .ref qa900), (2, .int zi902)]) hx hb dX12_termOf_159 hl (k := 4) rfl ea988.symm (by decide) rfl (fun ls hl => ?_)
            refine lv_goto (tgt := 5) hx hb dX12_termOf_162 (by decide) ?_
            exact ih844 hp979 zi982 zi987 _ _ ls (by have := hm846; have := qe991; omega) ok981 (Fr.put (cq := 91000) (Fr.tr (Fr.rf) F514 (by decide)) eh980 kd962 (cd_a (by decide)) (by decide)) (b_wid2 bd984 (by decide) (by decide)) (b_wid2 bd989 (by decide) (by decide)) ⟨gn847 + 1, by have := toi bc_1; omega, by rw [gp958.2]; omega⟩ (lv_sub hl [3, 4, 1, 0] rfl) hw hS
          · skip
            have bd992 : (0 : Int) ≤ zi863.toInt ∧ zi863.toInt ≤ 0 := r_eq_x cn963 bd957 bc_0 (by decide) (by decide)
            refine lv_aload_n hx hb dX12_termOf_36 rfl (lv_at hl 1 rfl) ?_
            have eq993 : hp513 qa900 40 = .ref qa5 := Eq.trans (Fr.at (cq := 13040) F514 kd900 (cd_o (by decide)) (by decide)) eq4
            refine p_get (ci := 12) (v := .ref qa5) (C := RX12) (T := TX12) (N := 69) hx hb hT iw_X12 hown hK hw hW kd900 (by decide) rfl rfl 40 (by decide) eq993 (hT _ tb_1414) (fun _ h9 => h9) dX12_termOf_37 ?_
            refine lv_iload hx hb dX12_termOf_40 (lv_at hl 4 rfl) ?_
            obtain ⟨zi995, eq994⟩ := rd_85000 ok515 kd6 ((zi512 : Int32).toNatClampNeg)
            refine p_iald (v := zi995) hx hb hK hw hW kd6 (by decide) rfl (hW.len kd6 (n := 840) rfl (by decide)) (vp_b bd858 (by decide) (by decide)) eq994 dX12_termOf_42 ?_
            refine lv_goto (tgt := 58) hx hb dX12_termOf_43 (by decide) ?_
            refine p_iast (x := zi995) hx hb hK hw hS hW kd962 (by decide) rfl (hW.len kd962 (n := 400) rfl (by decide)) (vp_b bd959 (by decide) (by decide)) dX12_termOf_58 (fun hp996 eh997 H locs hw hS => ?_)
            have ok998 := wr_91000 ok515 kd962 eh997
            obtain ⟨zi999, ea1000⟩ : ∃ z : Int32, z = zi511 + 1 := ⟨_, rfl⟩
            have bd1001 : (1 : Int) ≤ zi999.toInt ∧ zi999.toInt ≤ 41 := b_iadd ea1000 bd959 bc_1 (by decide) (by decide) (by decide) (by decide)
            have qe1002 : zi999.toInt = (zi511 : Int32).toInt + (1 : Int32).toInt := e_iadd ea1000 bd959 bc_1 (by decide) (by decide)
            have qe1003 : zi999.toInt = zi511.toInt + 1 := by have ha : (1 : Int32).toInt = 1 := (by decide); rw [ha] at qe1002; exact qe1002
            refine lv_iinc (v := zi999) (lv' := [(3, .int zi999), (5, .int zi863), (0, .ref qa900), (2, .int zi902), (4, .int zi512)]) hx hb dX12_termOf_59 hl (k := 3) rfl ea1000.symm (by decide) rfl (fun ls hl => ?_)
            refine lv_goto (tgt := 159) hx hb dX12_termOf_62 (by decide) ?_
            obtain ⟨zi1004, ea1005⟩ : ∃ z : Int32, z = zi512 + 1 := ⟨_, rfl⟩
            have bd1006 : (1 : Int) ≤ zi1004.toInt ∧ zi1004.toInt ≤ 840 := b_iadd ea1005 bd858 bc_1 (by decide) (by decide) (by decide) (by decide)
            have qe1007 : zi1004.toInt = (zi512 : Int32).toInt + (1 : Int32).toInt := e_iadd ea1005 bd858 bc_1 (by decide) (by decide)
            have qe1008 : zi1004.toInt = zi512.toInt + 1 := by have ha : (1 : Int32).toInt = 1 := (by decide); rw [ha] at qe1007; exact qe1007
            refine lv_iinc (v := zi1004) (lv' := [(4, .int zi1004), (3, .int zi999), (5, .int zi863), (0, .ref qa900), (2, .int zi902)]) hx hb dX12_termOf_159 hl (k := 4) rfl ea1005.symm (by decide) rfl (fun ls hl => ?_)
            refine lv_goto (tgt := 5) hx hb dX12_termOf_162 (by decide) ?_
            exact ih844 hp996 zi999 zi1004 _ _ ls (by have := hm846; have := qe1008; omega) ok998 (Fr.put (cq := 91000) (Fr.tr (Fr.rf) F514 (by decide)) eh997 kd962 (cd_a (by decide)) (by decide)) (b_wid2 bd1001 (by decide) (by decide)) (b_wid2 bd1006 (by decide) (by decide)) ⟨gn847 + 1, by have := toi bc_1; omega, by rw [gp958.2]; omega⟩ (lv_sub hl [3, 4, 1, 0] rfl) hw hS
  exact lp845 _ hp0 0 zi901 _ _ ls (lp_in _) ok0 (Fr.rf) (b_wid2 bc_0 (by decide) (by decide)) (b_wid2 bd901 (by decide) (by decide)) ⟨0, by simp, by rw [toi bc_0]; rfl⟩ (lv_sub hl [2, 4, 1, 0] rfl) hw hS

set_option maxRecDepth 100000 in
set_option maxHeartbeats 4000000 in
theorem cX12_in_0 (l : Launch) (G : va_G) (cy : Nat → ClassId) (ev : Ew) (K ln : Nat → Nat) (Ls : List Nat) (hW : SW K ln Ls) (sz : Nat) (hp0 : Nat → Nat → Value) (ok0 : Ok K hp0) (zi900 : Int32) (zi901 : Int32) (zi902 : Int32) (bd901 : ((0 : Int) ≤ zi901.toInt ∧ zi901.toInt ≤ 0)) (bd902 : ((-1 : Int) ≤ zi902.toInt ∧ zi902.toInt ≤ 15)) : Met l yX12_in (WS yX12_in cX12_in 3 (some .boolean)) { frames := 0, cells := 0, slots := 0, locals := 0 } (PB2 [.int zi900, .int zi901, .int zi902] sz G cy ev (va_pl Ls (cellOf cy K ln hp0))) (QBi (S := (Nat → Nat → Value)) (fun (r : Int32) (u : (Nat → Nat → Value)) => Ok K u ∧ Fr [] K hp0 u ∧ ((0 : Int) ≤ r.toInt ∧ r.toInt ≤ 1) ∧ (r = 1 → ((0 : Int) ≤ zi900.toInt ∧ zi900.toInt ≤ 15)) ∧ (r = 1 → ((0 : Int) ≤ zi902.toInt ∧ zi902.toInt ≤ 15))) G (fun u => va_pl Ls (cellOf cy K ln u)) (va_A (va_pl Ls (cellOf cy K ln hp0)) sz)) 0 0 (va_A (va_pl Ls (cellOf cy K ln hp0)) sz) := by
  refine met_of2 (y := yX12_in) (L := 3) (av := [.int zi900, .int zi901, .int zi902]) (Qc := fun A => QBi (S := (Nat → Nat → Value)) (fun (r : Int32) (u : (Nat → Nat → Value)) => Ok K u ∧ Fr [] K hp0 u ∧ ((0 : Int) ≤ r.toInt ∧ r.toInt ≤ 1) ∧ (r = 1 → ((0 : Int) ≤ zi900.toInt ∧ zi900.toInt ≤ 15)) ∧ (r = 1 → ((0 : Int) ≤ zi902.toInt ∧ zi902.toInt ≤ 15))) G (fun u => va_pl Ls (cellOf cy K ln u)) A) (plainFor_of_name (by decide)) (Nat.le_of_ble_eq_true rfl) ?_
  intro p e s m below meth c hsz hx hb hr hml hown hT hlocks hin hK A hA hE hw hS ls hl
  have hw : PW G cy K ln Ls A hp0 s.heap := hw
  have hown : s.vm.findClass "LieClockModel" = some m.cls := hown
  have hl : lv_has ls 3 [(0, .int zi900), (1, .int zi901), (2, .int zi902)] := hl
  obtain ⟨Q, hQ⟩ : ∃ Q : State → Prop, Q = MQ below (QBi (S := (Nat → Nat → Value)) (fun (r : Int32) (u : (Nat → Nat → Value)) => Ok K u ∧ Fr [] K hp0 u ∧ ((0 : Int) ≤ r.toInt ∧ r.toInt ≤ 1) ∧ (r = 1 → ((0 : Int) ≤ zi900.toInt ∧ zi900.toInt ≤ 15)) ∧ (r = 1 → ((0 : Int) ≤ zi902.toInt ∧ zi902.toInt ≤ 15))) G (fun u => va_pl Ls (cellOf cy K ln u)) A) ([.int zi900, .int zi901, .int zi902] : List Value).toArray s 0 0 A := ⟨_, rfl⟩
  rw [← hQ]
  refine lv_iload_n hx hb dX12_in_0 rfl (lv_at hl 0 rfl) ?_
  refine lv_iload_n hx hb dX12_in_1 rfl (lv_at hl 1 rfl) ?_
  refine lv_icmp_lt (tgt := 14) hx hb dX12_in_2 (by decide) (fun cn1 => ?_) (fun cn1 => ?_)
  · skip
    have bd2 : (-2147483648 : Int) ≤ zi900.toInt ∧ zi900.toInt ≤ -1 := r_lt_x cn1 (b_all zi900) bd901 (by decide) (by decide)
    refine lv_iconst (v := 0) hx hb dX12_in_14 (by decide) ?_
    rw [hQ]
    exact kz_i hx hb hr hlocks hS (nz_n bc_0 (by decide) (by decide)) hp0 hw ⟨ok0, (Fr.rf), (b_wid2 bc_0 (by decide) (by decide)), (fun h => absurd h (by decide)), (fun h => absurd h (by decide))⟩ (Nat.le_of_ble_eq_true rfl) (Nat.le_of_ble_eq_true rfl) dX12_in_15
  · skip
    have bd3 : (0 : Int) ≤ zi900.toInt ∧ zi900.toInt ≤ 2147483647 := r_le_y (Int32.not_lt.mp cn1) bd901 (b_all zi900) (by decide) (by decide)
    refine lv_iload_n hx hb dX12_in_5 rfl (lv_at hl 0 rfl) ?_
    refine lv_iload_n hx hb dX12_in_6 rfl (lv_at hl 2 rfl) ?_
    refine lv_icmp_gt (tgt := 14) hx hb dX12_in_7 (by decide) (fun cn4 => ?_) (fun cn4 => ?_)
    · skip
      refine lv_iconst (v := 0) hx hb dX12_in_14 (by decide) ?_
      rw [hQ]
      exact kz_i hx hb hr hlocks hS (nz_n bc_0 (by decide) (by decide)) hp0 hw ⟨ok0, (Fr.rf), (b_wid2 bc_0 (by decide) (by decide)), (fun h => absurd h (by decide)), (fun h => absurd h (by decide))⟩ (Nat.le_of_ble_eq_true rfl) (Nat.le_of_ble_eq_true rfl) dX12_in_15
    · skip
      have bd5 : (0 : Int) ≤ zi900.toInt ∧ zi900.toInt ≤ 15 := r_le_x (Int32.not_lt.mp cn4) bd3 bd902 (by decide) (by decide)
      have bd6 : (0 : Int) ≤ zi902.toInt ∧ zi902.toInt ≤ 15 := r_le_y (Int32.not_lt.mp cn4) bd3 bd902 (by decide) (by decide)
      refine lv_iconst (v := 1) hx hb dX12_in_10 (by decide) ?_
      refine lv_goto (tgt := 15) hx hb dX12_in_11 (by decide) ?_
      rw [hQ]
      exact kz_i hx hb hr hlocks hS (nz_n bc_1 (by decide) (by decide)) hp0 hw ⟨ok0, (Fr.rf), (b_wid2 bc_1 (by decide) (by decide)), (fun _ => b_wid2 bd5 (by decide) (by decide)), (fun _ => b_wid2 bd6 (by decide) (by decide))⟩ (Nat.le_of_ble_eq_true rfl) (Nat.le_of_ble_eq_true rfl) dX12_in_15

set_option maxRecDepth 100000 in
set_option maxHeartbeats 4000000 in
theorem cX12_isWord_0 (l : Launch) (G : va_G) (cy : Nat → ClassId) (ev : Ew) (K ln : Nat → Nat) (Ls : List Nat) (hW : SW K ln Ls) (sz : Nat) (hp0 : Nat → Nat → Value) (ok0 : Ok K hp0) (qa900 : Nat) (zi901 : Int32) (kd900 : K qa900 = 13) : Met l yX12_isWord (WS yX12_isWord cX12_isWord 2 (some .boolean)) { frames := 1, cells := 0, slots := 0, locals := 22 } (PB2 [.ref qa900, .int zi901] sz G cy ev (va_pl Ls (cellOf cy K ln hp0))) (QBi (S := (Nat → Nat → Value)) (fun (r : Int32) (u : (Nat → Nat → Value)) => Ok K u ∧ Fr [] K hp0 u ∧ ((0 : Int) ≤ r.toInt ∧ r.toInt ≤ 1) ∧ (r = 1 → ((0 : Int) ≤ zi901.toInt ∧ zi901.toInt ≤ 15))) G (fun u => va_pl Ls (cellOf cy K ln u)) (va_A (va_pl Ls (cellOf cy K ln hp0)) sz)) 0 0 (va_A (va_pl Ls (cellOf cy K ln hp0)) sz) := by
  refine met_of2 (y := yX12_isWord) (L := 2) (av := [.ref qa900, .int zi901]) (Qc := fun A => QBi (S := (Nat → Nat → Value)) (fun (r : Int32) (u : (Nat → Nat → Value)) => Ok K u ∧ Fr [] K hp0 u ∧ ((0 : Int) ≤ r.toInt ∧ r.toInt ≤ 1) ∧ (r = 1 → ((0 : Int) ≤ zi901.toInt ∧ zi901.toInt ≤ 15))) G (fun u => va_pl Ls (cellOf cy K ln u)) A) (plainFor_of_name (by decide)) (Nat.le_of_ble_eq_true rfl) ?_
  intro p e s m below meth c hsz hx hb hr hml hown hT hlocks hin hK A hA hE hw hS ls hl
  have hw : PW G cy K ln Ls A hp0 s.heap := hw
  have hown : s.vm.findClass "LieClockModel" = some m.cls := hown
  have hl : lv_has ls 2 [(0, .ref qa900), (1, .int zi901)] := hl
  obtain ⟨Q, hQ⟩ : ∃ Q : State → Prop, Q = MQ below (QBi (S := (Nat → Nat → Value)) (fun (r : Int32) (u : (Nat → Nat → Value)) => Ok K u ∧ Fr [] K hp0 u ∧ ((0 : Int) ≤ r.toInt ∧ r.toInt ≤ 1) ∧ (r = 1 → ((0 : Int) ≤ zi901.toInt ∧ zi901.toInt ≤ 15))) G (fun u => va_pl Ls (cellOf cy K ln u)) A) ([.ref qa900, .int zi901] : List Value).toArray s 0 0 A := ⟨_, rfl⟩
  rw [← hQ]
  refine lv_iload_n hx hb dX12_isWord_0 rfl (lv_at hl 1 rfl) ?_
  refine lv_iconst (v := 0) hx hb dX12_isWord_1 (by decide) ?_
  refine lv_aload_n hx hb dX12_isWord_2 rfl (lv_at hl 0 rfl) ?_
  obtain ⟨qa2, eq1, kd3⟩ := rd_13028 ok0 kd900
  refine p_get (ci := 12) (v := .ref qa2) (C := RX12) (T := TX12) (N := 69) hx hb hT iw_X12 hown hK hw hW kd900 (by decide) rfl rfl 28 (by decide) eq1 (hT _ tb_1402) (fun _ h9 => h9) dX12_isWord_3 ?_
  refine lv_aload_n hx hb dX12_isWord_6 rfl (lv_at hl 0 rfl) ?_
  obtain ⟨zi5, eq4, bd6⟩ := rd_13018 ok0 kd900
  refine p_get (ci := 12) (v := .int zi5) (C := RX12) (T := TX12) (N := 69) hx hb hT iw_X12 hown hK hw hW kd900 (by decide) rfl rfl 18 (by decide) eq4 (hT _ tb_1392) (fun _ h9 => h9) dX12_isWord_7 ?_
  obtain ⟨zi8, eq7, bd9⟩ := rd_74000 ok0 kd3 ((zi5 : Int32).toNatClampNeg)
  refine p_iald (v := zi8) hx hb hK hw hW kd3 (by decide) rfl (hW.len kd3 (n := 2) rfl (by decide)) (vp_b bd6 (by decide) (by decide)) eq7 dX12_isWord_10 ?_
  refine lv_iconst (v := 1) hx hb dX12_isWord_11 (by decide) ?_
  refine lv_isub hx hb dX12_isWord_12 (lv_topi (fun zi10 ea11 => ?_))
  have bd12 : (-1 : Int) ≤ zi10.toInt ∧ zi10.toInt ≤ 15 := b_isub ea11 bd9 bc_1 (by decide) (by decide) (by decide) (by decide)
  have qe13 : zi10.toInt = (zi8 : Int32).toInt - (1 : Int32).toInt := e_isub ea11 bd9 bc_1 (by decide) (by decide)
  have qe14 : zi10.toInt = zi8.toInt - 1 := by have ha : (1 : Int32).toInt = 1 := (by decide); rw [ha] at qe13; exact qe13
  refine kq_i hw hS hA (va_runS (As := [.int zi901, .int 0, .int zi10]) (rest := []) ⟨hx, hb, hml, hown, hT⟩ (cX12_in_0 l G cy ev K ln Ls hW _ hp0 ok0 zi901 0 zi10 (b_wid2 bc_0 (by decide) (by decide)) (b_wid2 bd12 (by decide) (by decide))) (va_cwS 3 hT (good_S tb_1734 tb_1732 tb_1733 tb_122) rfl rfl rfl (by decide +kernel) ⟨Nat.le_of_ble_eq_true rfl, Nat.le_of_ble_eq_true rfl⟩) (PB2.preS hK hE hS hA hw) rfl rfl hl.1 rfl (lv_room (Nat.le_of_ble_eq_true rfl)) dX12_isWord_13 ⟨Nat.le_of_ble_eq_true rfl, Nat.le_of_ble_eq_true rfl⟩) (fun zi19 hp15 H locs hq18 hw hS => ?_)
  obtain ⟨ok16, F17, bd20, hc21, hc22⟩ := hq18
  obtain rfl : hp0 = hp15 := (Fr.nil F17).symm
  have hw : PW G cy K ln Ls A hp0 H := hw
  rcases b01 bd20 with cn23 | cn23
  · skip
    subst cn23
    rw [hQ]
    exact kz_i hx hb hr hlocks hS (nz_n bc_0 (by decide) (by decide)) hp0 hw ⟨ok0, (Fr.rf), (b_wid2 bc_0 (by decide) (by decide)), (fun h => absurd h (by decide))⟩ (Nat.le_of_ble_eq_true rfl) (Nat.le_of_ble_eq_true rfl) dX12_isWord_16
  · skip
    subst cn23
    have bd24 : (0 : Int) ≤ zi901.toInt ∧ zi901.toInt ≤ 15 := b_meet (b_all zi901) (hc21 rfl) (by decide) (by decide)
    have bd25 : (0 : Int) ≤ zi10.toInt ∧ zi10.toInt ≤ 15 := b_meet bd12 (hc22 rfl) (by decide) (by decide)
    have bd26 : (1 : Int) ≤ zi8.toInt ∧ zi8.toInt ≤ 16 := (by have := qe14; have := bd25; have := bd9; have := bc_1; omega)
    rw [hQ]
    exact kz_i hx hb hr hlocks hS (nz_n bc_1 (by decide) (by decide)) hp0 hw ⟨ok0, (Fr.rf), (b_wid2 bc_1 (by decide) (by decide)), (fun _ => b_wid2 bd24 (by decide) (by decide))⟩ (Nat.le_of_ble_eq_true rfl) (Nat.le_of_ble_eq_true rfl) dX12_isWord_16

set_option maxRecDepth 100000 in
set_option maxHeartbeats 4000000 in
theorem cX12_in_1 (l : Launch) (G : va_G) (cy : Nat → ClassId) (ev : Ew) (K ln : Nat → Nat) (Ls : List Nat) (hW : SW K ln Ls) (sz : Nat) (hp0 : Nat → Nat → Value) (ok0 : Ok K hp0) (zi900 : Int32) (zi901 : Int32) (zi902 : Int32) (bd901 : ((0 : Int) ≤ zi901.toInt ∧ zi901.toInt ≤ 0)) (bd902 : ((-1 : Int) ≤ zi902.toInt ∧ zi902.toInt ≤ 7)) : Met l yX12_in (WS yX12_in cX12_in 3 (some .boolean)) { frames := 0, cells := 0, slots := 0, locals := 0 } (PB2 [.int zi900, .int zi901, .int zi902] sz G cy ev (va_pl Ls (cellOf cy K ln hp0))) (QBi (S := (Nat → Nat → Value)) (fun (r : Int32) (u : (Nat → Nat → Value)) => Ok K u ∧ Fr [] K hp0 u ∧ ((0 : Int) ≤ r.toInt ∧ r.toInt ≤ 1) ∧ (r = 1 → ((0 : Int) ≤ zi900.toInt ∧ zi900.toInt ≤ 7)) ∧ (r = 1 → ((0 : Int) ≤ zi902.toInt ∧ zi902.toInt ≤ 7))) G (fun u => va_pl Ls (cellOf cy K ln u)) (va_A (va_pl Ls (cellOf cy K ln hp0)) sz)) 0 0 (va_A (va_pl Ls (cellOf cy K ln hp0)) sz) := by
  refine met_of2 (y := yX12_in) (L := 3) (av := [.int zi900, .int zi901, .int zi902]) (Qc := fun A => QBi (S := (Nat → Nat → Value)) (fun (r : Int32) (u : (Nat → Nat → Value)) => Ok K u ∧ Fr [] K hp0 u ∧ ((0 : Int) ≤ r.toInt ∧ r.toInt ≤ 1) ∧ (r = 1 → ((0 : Int) ≤ zi900.toInt ∧ zi900.toInt ≤ 7)) ∧ (r = 1 → ((0 : Int) ≤ zi902.toInt ∧ zi902.toInt ≤ 7))) G (fun u => va_pl Ls (cellOf cy K ln u)) A) (plainFor_of_name (by decide)) (Nat.le_of_ble_eq_true rfl) ?_
  intro p e s m below meth c hsz hx hb hr hml hown hT hlocks hin hK A hA hE hw hS ls hl
  have hw : PW G cy K ln Ls A hp0 s.heap := hw
  have hown : s.vm.findClass "LieClockModel" = some m.cls := hown
  have hl : lv_has ls 3 [(0, .int zi900), (1, .int zi901), (2, .int zi902)] := hl
  obtain ⟨Q, hQ⟩ : ∃ Q : State → Prop, Q = MQ below (QBi (S := (Nat → Nat → Value)) (fun (r : Int32) (u : (Nat → Nat → Value)) => Ok K u ∧ Fr [] K hp0 u ∧ ((0 : Int) ≤ r.toInt ∧ r.toInt ≤ 1) ∧ (r = 1 → ((0 : Int) ≤ zi900.toInt ∧ zi900.toInt ≤ 7)) ∧ (r = 1 → ((0 : Int) ≤ zi902.toInt ∧ zi902.toInt ≤ 7))) G (fun u => va_pl Ls (cellOf cy K ln u)) A) ([.int zi900, .int zi901, .int zi902] : List Value).toArray s 0 0 A := ⟨_, rfl⟩
  rw [← hQ]
  refine lv_iload_n hx hb dX12_in_0 rfl (lv_at hl 0 rfl) ?_
  refine lv_iload_n hx hb dX12_in_1 rfl (lv_at hl 1 rfl) ?_
  refine lv_icmp_lt (tgt := 14) hx hb dX12_in_2 (by decide) (fun cn1 => ?_) (fun cn1 => ?_)
  · skip
    have bd2 : (-2147483648 : Int) ≤ zi900.toInt ∧ zi900.toInt ≤ -1 := r_lt_x cn1 (b_all zi900) bd901 (by decide) (by decide)
    refine lv_iconst (v := 0) hx hb dX12_in_14 (by decide) ?_
    rw [hQ]
    exact kz_i hx hb hr hlocks hS (nz_n bc_0 (by decide) (by decide)) hp0 hw ⟨ok0, (Fr.rf), (b_wid2 bc_0 (by decide) (by decide)), (fun h => absurd h (by decide)), (fun h => absurd h (by decide))⟩ (Nat.le_of_ble_eq_true rfl) (Nat.le_of_ble_eq_true rfl) dX12_in_15
  · skip
    have bd3 : (0 : Int) ≤ zi900.toInt ∧ zi900.toInt ≤ 2147483647 := r_le_y (Int32.not_lt.mp cn1) bd901 (b_all zi900) (by decide) (by decide)
    refine lv_iload_n hx hb dX12_in_5 rfl (lv_at hl 0 rfl) ?_
    refine lv_iload_n hx hb dX12_in_6 rfl (lv_at hl 2 rfl) ?_
    refine lv_icmp_gt (tgt := 14) hx hb dX12_in_7 (by decide) (fun cn4 => ?_) (fun cn4 => ?_)
    · skip
      refine lv_iconst (v := 0) hx hb dX12_in_14 (by decide) ?_
      rw [hQ]
      exact kz_i hx hb hr hlocks hS (nz_n bc_0 (by decide) (by decide)) hp0 hw ⟨ok0, (Fr.rf), (b_wid2 bc_0 (by decide) (by decide)), (fun h => absurd h (by decide)), (fun h => absurd h (by decide))⟩ (Nat.le_of_ble_eq_true rfl) (Nat.le_of_ble_eq_true rfl) dX12_in_15
    · skip
      have bd5 : (0 : Int) ≤ zi900.toInt ∧ zi900.toInt ≤ 7 := r_le_x (Int32.not_lt.mp cn4) bd3 bd902 (by decide) (by decide)
      have bd6 : (0 : Int) ≤ zi902.toInt ∧ zi902.toInt ≤ 7 := r_le_y (Int32.not_lt.mp cn4) bd3 bd902 (by decide) (by decide)
      refine lv_iconst (v := 1) hx hb dX12_in_10 (by decide) ?_
      refine lv_goto (tgt := 15) hx hb dX12_in_11 (by decide) ?_
      rw [hQ]
      exact kz_i hx hb hr hlocks hS (nz_n bc_1 (by decide) (by decide)) hp0 hw ⟨ok0, (Fr.rf), (b_wid2 bc_1 (by decide) (by decide)), (fun _ => b_wid2 bd5 (by decide) (by decide)), (fun _ => b_wid2 bd6 (by decide) (by decide))⟩ (Nat.le_of_ble_eq_true rfl) (Nat.le_of_ble_eq_true rfl) dX12_in_15

set_option maxRecDepth 100000 in
set_option maxHeartbeats 4000000 in
theorem cX12_isCase_0 (l : Launch) (G : va_G) (cy : Nat → ClassId) (ev : Ew) (K ln : Nat → Nat) (Ls : List Nat) (hW : SW K ln Ls) (sz : Nat) (hp0 : Nat → Nat → Value) (ok0 : Ok K hp0) (qa900 : Nat) (zi901 : Int32) (kd900 : K qa900 = 13) : Met l yX12_isCase (WS yX12_isCase cX12_isCase 2 (some .boolean)) { frames := 1, cells := 0, slots := 0, locals := 22 } (PB2 [.ref qa900, .int zi901] sz G cy ev (va_pl Ls (cellOf cy K ln hp0))) (QBi (S := (Nat → Nat → Value)) (fun (r : Int32) (u : (Nat → Nat → Value)) => Ok K u ∧ Fr [] K hp0 u ∧ ((0 : Int) ≤ r.toInt ∧ r.toInt ≤ 1) ∧ (r = 1 → ((0 : Int) ≤ zi901.toInt ∧ zi901.toInt ≤ 7))) G (fun u => va_pl Ls (cellOf cy K ln u)) (va_A (va_pl Ls (cellOf cy K ln hp0)) sz)) 0 0 (va_A (va_pl Ls (cellOf cy K ln hp0)) sz) := by
  refine met_of2 (y := yX12_isCase) (L := 2) (av := [.ref qa900, .int zi901]) (Qc := fun A => QBi (S := (Nat → Nat → Value)) (fun (r : Int32) (u : (Nat → Nat → Value)) => Ok K u ∧ Fr [] K hp0 u ∧ ((0 : Int) ≤ r.toInt ∧ r.toInt ≤ 1) ∧ (r = 1 → ((0 : Int) ≤ zi901.toInt ∧ zi901.toInt ≤ 7))) G (fun u => va_pl Ls (cellOf cy K ln u)) A) (plainFor_of_name (by decide)) (Nat.le_of_ble_eq_true rfl) ?_
  intro p e s m below meth c hsz hx hb hr hml hown hT hlocks hin hK A hA hE hw hS ls hl
  have hw : PW G cy K ln Ls A hp0 s.heap := hw
  have hown : s.vm.findClass "LieClockModel" = some m.cls := hown
  have hl : lv_has ls 2 [(0, .ref qa900), (1, .int zi901)] := hl
  obtain ⟨Q, hQ⟩ : ∃ Q : State → Prop, Q = MQ below (QBi (S := (Nat → Nat → Value)) (fun (r : Int32) (u : (Nat → Nat → Value)) => Ok K u ∧ Fr [] K hp0 u ∧ ((0 : Int) ≤ r.toInt ∧ r.toInt ≤ 1) ∧ (r = 1 → ((0 : Int) ≤ zi901.toInt ∧ zi901.toInt ≤ 7))) G (fun u => va_pl Ls (cellOf cy K ln u)) A) ([.ref qa900, .int zi901] : List Value).toArray s 0 0 A := ⟨_, rfl⟩
  rw [← hQ]
  refine lv_iload_n hx hb dX12_isCase_0 rfl (lv_at hl 1 rfl) ?_
  refine lv_iconst (v := 0) hx hb dX12_isCase_1 (by decide) ?_
  refine lv_aload_n hx hb dX12_isCase_2 rfl (lv_at hl 0 rfl) ?_
  obtain ⟨qa2, eq1, kd3⟩ := rd_13032 ok0 kd900
  refine p_get (ci := 12) (v := .ref qa2) (C := RX12) (T := TX12) (N := 69) hx hb hT iw_X12 hown hK hw hW kd900 (by decide) rfl rfl 32 (by decide) eq1 (hT _ tb_1406) (fun _ h9 => h9) dX12_isCase_3 ?_
  refine lv_aload_n hx hb dX12_isCase_6 rfl (lv_at hl 0 rfl) ?_
  obtain ⟨zi5, eq4, bd6⟩ := rd_13018 ok0 kd900
  refine p_get (ci := 12) (v := .int zi5) (C := RX12) (T := TX12) (N := 69) hx hb hT iw_X12 hown hK hw hW kd900 (by decide) rfl rfl 18 (by decide) eq4 (hT _ tb_1392) (fun _ h9 => h9) dX12_isCase_7 ?_
  obtain ⟨zi8, eq7, bd9⟩ := rd_78000 ok0 kd3 ((zi5 : Int32).toNatClampNeg)
  refine p_iald (v := zi8) hx hb hK hw hW kd3 (by decide) rfl (hW.len kd3 (n := 2) rfl (by decide)) (vp_b bd6 (by decide) (by decide)) eq7 dX12_isCase_10 ?_
  refine lv_iconst (v := 1) hx hb dX12_isCase_11 (by decide) ?_
  refine lv_isub hx hb dX12_isCase_12 (lv_topi (fun zi10 ea11 => ?_))
  have bd12 : (-1 : Int) ≤ zi10.toInt ∧ zi10.toInt ≤ 7 := b_isub ea11 bd9 bc_1 (by decide) (by decide) (by decide) (by decide)
  have qe13 : zi10.toInt = (zi8 : Int32).toInt - (1 : Int32).toInt := e_isub ea11 bd9 bc_1 (by decide) (by decide)
  have qe14 : zi10.toInt = zi8.toInt - 1 := by have ha : (1 : Int32).toInt = 1 := (by decide); rw [ha] at qe13; exact qe13
  refine kq_i hw hS hA (va_runS (As := [.int zi901, .int 0, .int zi10]) (rest := []) ⟨hx, hb, hml, hown, hT⟩ (cX12_in_1 l G cy ev K ln Ls hW _ hp0 ok0 zi901 0 zi10 (b_wid2 bc_0 (by decide) (by decide)) (b_wid2 bd12 (by decide) (by decide))) (va_cwS 3 hT (good_S tb_1734 tb_1732 tb_1733 tb_122) rfl rfl rfl (by decide +kernel) ⟨Nat.le_of_ble_eq_true rfl, Nat.le_of_ble_eq_true rfl⟩) (PB2.preS hK hE hS hA hw) rfl rfl hl.1 rfl (lv_room (Nat.le_of_ble_eq_true rfl)) dX12_isCase_13 ⟨Nat.le_of_ble_eq_true rfl, Nat.le_of_ble_eq_true rfl⟩) (fun zi19 hp15 H locs hq18 hw hS => ?_)
  obtain ⟨ok16, F17, bd20, hc21, hc22⟩ := hq18
  obtain rfl : hp0 = hp15 := (Fr.nil F17).symm
  have hw : PW G cy K ln Ls A hp0 H := hw
  rcases b01 bd20 with cn23 | cn23
  · skip
    subst cn23
    rw [hQ]
    exact kz_i hx hb hr hlocks hS (nz_n bc_0 (by decide) (by decide)) hp0 hw ⟨ok0, (Fr.rf), (b_wid2 bc_0 (by decide) (by decide)), (fun h => absurd h (by decide))⟩ (Nat.le_of_ble_eq_true rfl) (Nat.le_of_ble_eq_true rfl) dX12_isCase_16
  · skip
    subst cn23
    have bd24 : (0 : Int) ≤ zi901.toInt ∧ zi901.toInt ≤ 7 := b_meet (b_all zi901) (hc21 rfl) (by decide) (by decide)
    have bd25 : (0 : Int) ≤ zi10.toInt ∧ zi10.toInt ≤ 7 := b_meet bd12 (hc22 rfl) (by decide) (by decide)
    have bd26 : (1 : Int) ≤ zi8.toInt ∧ zi8.toInt ≤ 8 := (by have := qe14; have := bd25; have := bd9; have := bc_1; omega)
    rw [hQ]
    exact kz_i hx hb hr hlocks hS (nz_n bc_1 (by decide) (by decide)) hp0 hw ⟨ok0, (Fr.rf), (b_wid2 bc_1 (by decide) (by decide)), (fun _ => b_wid2 bd24 (by decide) (by decide))⟩ (Nat.le_of_ble_eq_true rfl) (Nat.le_of_ble_eq_true rfl) dX12_isCase_16

set_option maxRecDepth 100000 in
set_option maxHeartbeats 4000000 in
theorem cX12_in_2 (l : Launch) (G : va_G) (cy : Nat → ClassId) (ev : Ew) (K ln : Nat → Nat) (Ls : List Nat) (hW : SW K ln Ls) (sz : Nat) (hp0 : Nat → Nat → Value) (ok0 : Ok K hp0) (zi900 : Int32) (zi901 : Int32) (zi902 : Int32) (bd901 : ((0 : Int) ≤ zi901.toInt ∧ zi901.toInt ≤ 0)) (bd902 : ((-1 : Int) ≤ zi902.toInt ∧ zi902.toInt ≤ 5)) : Met l yX12_in (WS yX12_in cX12_in 3 (some .boolean)) { frames := 0, cells := 0, slots := 0, locals := 0 } (PB2 [.int zi900, .int zi901, .int zi902] sz G cy ev (va_pl Ls (cellOf cy K ln hp0))) (QBi (S := (Nat → Nat → Value)) (fun (r : Int32) (u : (Nat → Nat → Value)) => Ok K u ∧ Fr [] K hp0 u ∧ ((0 : Int) ≤ r.toInt ∧ r.toInt ≤ 1) ∧ (r = 1 → ((0 : Int) ≤ zi900.toInt ∧ zi900.toInt ≤ 5)) ∧ (r = 1 → ((0 : Int) ≤ zi902.toInt ∧ zi902.toInt ≤ 5))) G (fun u => va_pl Ls (cellOf cy K ln u)) (va_A (va_pl Ls (cellOf cy K ln hp0)) sz)) 0 0 (va_A (va_pl Ls (cellOf cy K ln hp0)) sz) := by
  refine met_of2 (y := yX12_in) (L := 3) (av := [.int zi900, .int zi901, .int zi902]) (Qc := fun A => QBi (S := (Nat → Nat → Value)) (fun (r : Int32) (u : (Nat → Nat → Value)) => Ok K u ∧ Fr [] K hp0 u ∧ ((0 : Int) ≤ r.toInt ∧ r.toInt ≤ 1) ∧ (r = 1 → ((0 : Int) ≤ zi900.toInt ∧ zi900.toInt ≤ 5)) ∧ (r = 1 → ((0 : Int) ≤ zi902.toInt ∧ zi902.toInt ≤ 5))) G (fun u => va_pl Ls (cellOf cy K ln u)) A) (plainFor_of_name (by decide)) (Nat.le_of_ble_eq_true rfl) ?_
  intro p e s m below meth c hsz hx hb hr hml hown hT hlocks hin hK A hA hE hw hS ls hl
  have hw : PW G cy K ln Ls A hp0 s.heap := hw
  have hown : s.vm.findClass "LieClockModel" = some m.cls := hown
  have hl : lv_has ls 3 [(0, .int zi900), (1, .int zi901), (2, .int zi902)] := hl
  obtain ⟨Q, hQ⟩ : ∃ Q : State → Prop, Q = MQ below (QBi (S := (Nat → Nat → Value)) (fun (r : Int32) (u : (Nat → Nat → Value)) => Ok K u ∧ Fr [] K hp0 u ∧ ((0 : Int) ≤ r.toInt ∧ r.toInt ≤ 1) ∧ (r = 1 → ((0 : Int) ≤ zi900.toInt ∧ zi900.toInt ≤ 5)) ∧ (r = 1 → ((0 : Int) ≤ zi902.toInt ∧ zi902.toInt ≤ 5))) G (fun u => va_pl Ls (cellOf cy K ln u)) A) ([.int zi900, .int zi901, .int zi902] : List Value).toArray s 0 0 A := ⟨_, rfl⟩
  rw [← hQ]
  refine lv_iload_n hx hb dX12_in_0 rfl (lv_at hl 0 rfl) ?_
  refine lv_iload_n hx hb dX12_in_1 rfl (lv_at hl 1 rfl) ?_
  refine lv_icmp_lt (tgt := 14) hx hb dX12_in_2 (by decide) (fun cn1 => ?_) (fun cn1 => ?_)
  · skip
    have bd2 : (-2147483648 : Int) ≤ zi900.toInt ∧ zi900.toInt ≤ -1 := r_lt_x cn1 (b_all zi900) bd901 (by decide) (by decide)
    refine lv_iconst (v := 0) hx hb dX12_in_14 (by decide) ?_
    rw [hQ]
    exact kz_i hx hb hr hlocks hS (nz_n bc_0 (by decide) (by decide)) hp0 hw ⟨ok0, (Fr.rf), (b_wid2 bc_0 (by decide) (by decide)), (fun h => absurd h (by decide)), (fun h => absurd h (by decide))⟩ (Nat.le_of_ble_eq_true rfl) (Nat.le_of_ble_eq_true rfl) dX12_in_15
  · skip
    have bd3 : (0 : Int) ≤ zi900.toInt ∧ zi900.toInt ≤ 2147483647 := r_le_y (Int32.not_lt.mp cn1) bd901 (b_all zi900) (by decide) (by decide)
    refine lv_iload_n hx hb dX12_in_5 rfl (lv_at hl 0 rfl) ?_
    refine lv_iload_n hx hb dX12_in_6 rfl (lv_at hl 2 rfl) ?_
    refine lv_icmp_gt (tgt := 14) hx hb dX12_in_7 (by decide) (fun cn4 => ?_) (fun cn4 => ?_)
    · skip
      refine lv_iconst (v := 0) hx hb dX12_in_14 (by decide) ?_
      rw [hQ]
      exact kz_i hx hb hr hlocks hS (nz_n bc_0 (by decide) (by decide)) hp0 hw ⟨ok0, (Fr.rf), (b_wid2 bc_0 (by decide) (by decide)), (fun h => absurd h (by decide)), (fun h => absurd h (by decide))⟩ (Nat.le_of_ble_eq_true rfl) (Nat.le_of_ble_eq_true rfl) dX12_in_15
    · skip
      have bd5 : (0 : Int) ≤ zi900.toInt ∧ zi900.toInt ≤ 5 := r_le_x (Int32.not_lt.mp cn4) bd3 bd902 (by decide) (by decide)
      have bd6 : (0 : Int) ≤ zi902.toInt ∧ zi902.toInt ≤ 5 := r_le_y (Int32.not_lt.mp cn4) bd3 bd902 (by decide) (by decide)
      refine lv_iconst (v := 1) hx hb dX12_in_10 (by decide) ?_
      refine lv_goto (tgt := 15) hx hb dX12_in_11 (by decide) ?_
      rw [hQ]
      exact kz_i hx hb hr hlocks hS (nz_n bc_1 (by decide) (by decide)) hp0 hw ⟨ok0, (Fr.rf), (b_wid2 bc_1 (by decide) (by decide)), (fun _ => b_wid2 bd5 (by decide) (by decide)), (fun _ => b_wid2 bd6 (by decide) (by decide))⟩ (Nat.le_of_ble_eq_true rfl) (Nat.le_of_ble_eq_true rfl) dX12_in_15

set_option maxRecDepth 100000 in
set_option maxHeartbeats 4000000 in
theorem cX12_isWitness_0 (l : Launch) (G : va_G) (cy : Nat → ClassId) (ev : Ew) (K ln : Nat → Nat) (Ls : List Nat) (hW : SW K ln Ls) (sz : Nat) (hp0 : Nat → Nat → Value) (ok0 : Ok K hp0) (qa900 : Nat) (zi901 : Int32) (kd900 : K qa900 = 13) : Met l yX12_isWitness (WS yX12_isWitness cX12_isWitness 2 (some .boolean)) { frames := 1, cells := 0, slots := 0, locals := 22 } (PB2 [.ref qa900, .int zi901] sz G cy ev (va_pl Ls (cellOf cy K ln hp0))) (QBi (S := (Nat → Nat → Value)) (fun (r : Int32) (u : (Nat → Nat → Value)) => Ok K u ∧ Fr [] K hp0 u ∧ ((0 : Int) ≤ r.toInt ∧ r.toInt ≤ 1) ∧ (r = 1 → ((0 : Int) ≤ zi901.toInt ∧ zi901.toInt ≤ 5))) G (fun u => va_pl Ls (cellOf cy K ln u)) (va_A (va_pl Ls (cellOf cy K ln hp0)) sz)) 0 0 (va_A (va_pl Ls (cellOf cy K ln hp0)) sz) := by
  refine met_of2 (y := yX12_isWitness) (L := 2) (av := [.ref qa900, .int zi901]) (Qc := fun A => QBi (S := (Nat → Nat → Value)) (fun (r : Int32) (u : (Nat → Nat → Value)) => Ok K u ∧ Fr [] K hp0 u ∧ ((0 : Int) ≤ r.toInt ∧ r.toInt ≤ 1) ∧ (r = 1 → ((0 : Int) ≤ zi901.toInt ∧ zi901.toInt ≤ 5))) G (fun u => va_pl Ls (cellOf cy K ln u)) A) (plainFor_of_name (by decide)) (Nat.le_of_ble_eq_true rfl) ?_
  intro p e s m below meth c hsz hx hb hr hml hown hT hlocks hin hK A hA hE hw hS ls hl
  have hw : PW G cy K ln Ls A hp0 s.heap := hw
  have hown : s.vm.findClass "LieClockModel" = some m.cls := hown
  have hl : lv_has ls 2 [(0, .ref qa900), (1, .int zi901)] := hl
  obtain ⟨Q, hQ⟩ : ∃ Q : State → Prop, Q = MQ below (QBi (S := (Nat → Nat → Value)) (fun (r : Int32) (u : (Nat → Nat → Value)) => Ok K u ∧ Fr [] K hp0 u ∧ ((0 : Int) ≤ r.toInt ∧ r.toInt ≤ 1) ∧ (r = 1 → ((0 : Int) ≤ zi901.toInt ∧ zi901.toInt ≤ 5))) G (fun u => va_pl Ls (cellOf cy K ln u)) A) ([.ref qa900, .int zi901] : List Value).toArray s 0 0 A := ⟨_, rfl⟩
  rw [← hQ]
  refine lv_iload_n hx hb dX12_isWitness_0 rfl (lv_at hl 1 rfl) ?_
  refine lv_iconst (v := 0) hx hb dX12_isWitness_1 (by decide) ?_
  refine lv_aload_n hx hb dX12_isWitness_2 rfl (lv_at hl 0 rfl) ?_
  obtain ⟨qa2, eq1, kd3⟩ := rd_13027 ok0 kd900
  refine p_get (ci := 12) (v := .ref qa2) (C := RX12) (T := TX12) (N := 69) hx hb hT iw_X12 hown hK hw hW kd900 (by decide) rfl rfl 27 (by decide) eq1 (hT _ tb_1401) (fun _ h9 => h9) dX12_isWitness_3 ?_
  refine lv_aload_n hx hb dX12_isWitness_6 rfl (lv_at hl 0 rfl) ?_
  obtain ⟨zi5, eq4, bd6⟩ := rd_13018 ok0 kd900
  refine p_get (ci := 12) (v := .int zi5) (C := RX12) (T := TX12) (N := 69) hx hb hT iw_X12 hown hK hw hW kd900 (by decide) rfl rfl 18 (by decide) eq4 (hT _ tb_1392) (fun _ h9 => h9) dX12_isWitness_7 ?_
  obtain ⟨zi8, eq7, bd9⟩ := rd_73000 ok0 kd3 ((zi5 : Int32).toNatClampNeg)
  refine p_iald (v := zi8) hx hb hK hw hW kd3 (by decide) rfl (hW.len kd3 (n := 2) rfl (by decide)) (vp_b bd6 (by decide) (by decide)) eq7 dX12_isWitness_10 ?_
  refine lv_iconst (v := 1) hx hb dX12_isWitness_11 (by decide) ?_
  refine lv_isub hx hb dX12_isWitness_12 (lv_topi (fun zi10 ea11 => ?_))
  have bd12 : (-1 : Int) ≤ zi10.toInt ∧ zi10.toInt ≤ 5 := b_isub ea11 bd9 bc_1 (by decide) (by decide) (by decide) (by decide)
  have qe13 : zi10.toInt = (zi8 : Int32).toInt - (1 : Int32).toInt := e_isub ea11 bd9 bc_1 (by decide) (by decide)
  have qe14 : zi10.toInt = zi8.toInt - 1 := by have ha : (1 : Int32).toInt = 1 := (by decide); rw [ha] at qe13; exact qe13
  refine kq_i hw hS hA (va_runS (As := [.int zi901, .int 0, .int zi10]) (rest := []) ⟨hx, hb, hml, hown, hT⟩ (cX12_in_2 l G cy ev K ln Ls hW _ hp0 ok0 zi901 0 zi10 (b_wid2 bc_0 (by decide) (by decide)) (b_wid2 bd12 (by decide) (by decide))) (va_cwS 3 hT (good_S tb_1734 tb_1732 tb_1733 tb_122) rfl rfl rfl (by decide +kernel) ⟨Nat.le_of_ble_eq_true rfl, Nat.le_of_ble_eq_true rfl⟩) (PB2.preS hK hE hS hA hw) rfl rfl hl.1 rfl (lv_room (Nat.le_of_ble_eq_true rfl)) dX12_isWitness_13 ⟨Nat.le_of_ble_eq_true rfl, Nat.le_of_ble_eq_true rfl⟩) (fun zi19 hp15 H locs hq18 hw hS => ?_)
  obtain ⟨ok16, F17, bd20, hc21, hc22⟩ := hq18
  obtain rfl : hp0 = hp15 := (Fr.nil F17).symm
  have hw : PW G cy K ln Ls A hp0 H := hw
  rcases b01 bd20 with cn23 | cn23
  · skip
    subst cn23
    rw [hQ]
    exact kz_i hx hb hr hlocks hS (nz_n bc_0 (by decide) (by decide)) hp0 hw ⟨ok0, (Fr.rf), (b_wid2 bc_0 (by decide) (by decide)), (fun h => absurd h (by decide))⟩ (Nat.le_of_ble_eq_true rfl) (Nat.le_of_ble_eq_true rfl) dX12_isWitness_16
  · skip
    subst cn23
    have bd24 : (0 : Int) ≤ zi901.toInt ∧ zi901.toInt ≤ 5 := b_meet (b_all zi901) (hc21 rfl) (by decide) (by decide)
    have bd25 : (0 : Int) ≤ zi10.toInt ∧ zi10.toInt ≤ 5 := b_meet bd12 (hc22 rfl) (by decide) (by decide)
    have bd26 : (1 : Int) ≤ zi8.toInt ∧ zi8.toInt ≤ 6 := (by have := qe14; have := bd25; have := bd9; have := bc_1; omega)
    rw [hQ]
    exact kz_i hx hb hr hlocks hS (nz_n bc_1 (by decide) (by decide)) hp0 hw ⟨ok0, (Fr.rf), (b_wid2 bc_1 (by decide) (by decide)), (fun _ => b_wid2 bd24 (by decide) (by decide))⟩ (Nat.le_of_ble_eq_true rfl) (Nat.le_of_ble_eq_true rfl) dX12_isWitness_16

set_option maxRecDepth 100000 in
set_option maxHeartbeats 4000000 in
theorem cX12_holdsOf_0 (l : Launch) (G : va_G) (cy : Nat → ClassId) (ev : Ew) (K ln : Nat → Nat) (Ls : List Nat) (hW : SW K ln Ls) (sz : Nat) (hp0 : Nat → Nat → Value) (ok0 : Ok K hp0) (qa900 : Nat) (zi901 : Int32) (kd900 : K qa900 = 13) (bd901 : ((0 : Int) ≤ zi901.toInt ∧ zi901.toInt ≤ 15)) : Met l yX12_holdsOf (WS yX12_holdsOf cX12_holdsOf 2 (some .long)) { frames := 0, cells := 0, slots := 0, locals := 0 } (PB2 [.ref qa900, .int zi901] sz G cy ev (va_pl Ls (cellOf cy K ln hp0))) (QBl (S := (Nat → Nat → Value)) (fun (r : Int64) (u : (Nat → Nat → Value)) => Ok K u ∧ Fr [] K hp0 u) G (fun u => va_pl Ls (cellOf cy K ln u)) (va_A (va_pl Ls (cellOf cy K ln hp0)) sz)) 0 0 (va_A (va_pl Ls (cellOf cy K ln hp0)) sz) := by
  refine met_of2 (y := yX12_holdsOf) (L := 2) (av := [.ref qa900, .int zi901]) (Qc := fun A => QBl (S := (Nat → Nat → Value)) (fun (r : Int64) (u : (Nat → Nat → Value)) => Ok K u ∧ Fr [] K hp0 u) G (fun u => va_pl Ls (cellOf cy K ln u)) A) (plainFor_of_name (by decide)) (Nat.le_of_ble_eq_true rfl) ?_
  intro p e s m below meth c hsz hx hb hr hml hown hT hlocks hin hK A hA hE hw hS ls hl
  have hw : PW G cy K ln Ls A hp0 s.heap := hw
  have hown : s.vm.findClass "LieClockModel" = some m.cls := hown
  have hl : lv_has ls 2 [(0, .ref qa900), (1, .int zi901)] := hl
  obtain ⟨Q, hQ⟩ : ∃ Q : State → Prop, Q = MQ below (QBl (S := (Nat → Nat → Value)) (fun (r : Int64) (u : (Nat → Nat → Value)) => Ok K u ∧ Fr [] K hp0 u) G (fun u => va_pl Ls (cellOf cy K ln u)) A) ([.ref qa900, .int zi901] : List Value).toArray s 0 0 A := ⟨_, rfl⟩
  rw [← hQ]
  refine lv_aload_n hx hb dX12_holdsOf_0 rfl (lv_at hl 0 rfl) ?_
  obtain ⟨qa2, eq1, kd3⟩ := rd_13031 ok0 kd900
  refine p_get (ci := 12) (v := .ref qa2) (C := RX12) (T := TX12) (N := 69) hx hb hT iw_X12 hown hK hw hW kd900 (by decide) rfl rfl 31 (by decide) eq1 (hT _ tb_1405) (fun _ h9 => h9) dX12_holdsOf_1 ?_
  refine lv_bipush (v := 16) hx hb dX12_holdsOf_4 (by decide) ?_
  refine lv_aload_n hx hb dX12_holdsOf_6 rfl (lv_at hl 0 rfl) ?_
  obtain ⟨zi5, eq4, bd6⟩ := rd_13018 ok0 kd900
  refine p_get (ci := 12) (v := .int zi5) (C := RX12) (T := TX12) (N := 69) hx hb hT iw_X12 hown hK hw hW kd900 (by decide) rfl rfl 18 (by decide) eq4 (hT _ tb_1392) (fun _ h9 => h9) dX12_holdsOf_7 ?_
  refine lv_imul hx hb dX12_holdsOf_10 (lv_topi (fun zi7 ea8 => ?_))
  have bd9 : (0 : Int) ≤ zi7.toInt ∧ zi7.toInt ≤ 16 := b_imul ea8 bc_16 bd6 (by decide) (by decide) (by decide) (by decide) (by decide)
  refine lv_iload_n hx hb dX12_holdsOf_11 rfl (lv_at hl 1 rfl) ?_
  refine lv_iadd hx hb dX12_holdsOf_12 (lv_topi (fun zi10 ea11 => ?_))
  have bd12 : (0 : Int) ≤ zi10.toInt ∧ zi10.toInt ≤ 31 := b_iadd ea11 bd9 bd901 (by decide) (by decide) (by decide) (by decide)
  obtain ⟨wl14, eq13⟩ := rd_77000 ok0 kd3 ((zi10 : Int32).toNatClampNeg)
  refine p_lald (v := wl14) hx hb hK hw hW kd3 (by decide) rfl (hW.len kd3 (n := 32) rfl (by decide)) (vp_b bd12 (by decide) (by decide)) eq13 dX12_holdsOf_13 ?_
  rw [hQ]
  exact kz_l hx hb hr hlocks hS hp0 hw ⟨ok0, (Fr.rf)⟩ (Nat.le_of_ble_eq_true rfl) (Nat.le_of_ble_eq_true rfl) dX12_holdsOf_14

set_option maxRecDepth 100000 in
set_option maxHeartbeats 4000000 in
theorem cX12_isTrue_0 (l : Launch) (G : va_G) (cy : Nat → ClassId) (ev : Ew) (K ln : Nat → Nat) (Ls : List Nat) (hW : SW K ln Ls) (sz : Nat) (hp0 : Nat → Nat → Value) (ok0 : Ok K hp0) (qa900 : Nat) (zi901 : Int32) (kd900 : K qa900 = 13) (bd901 : ((0 : Int) ≤ zi901.toInt ∧ zi901.toInt ≤ 15)) : Met l yX12_isTrue (WS yX12_isTrue cX12_isTrue 2 (some .boolean)) { frames := 1, cells := 0, slots := 0, locals := 21 } (PB2 [.ref qa900, .int zi901] sz G cy ev (va_pl Ls (cellOf cy K ln hp0))) (QBi (S := (Nat → Nat → Value)) (fun (r : Int32) (u : (Nat → Nat → Value)) => Ok K u ∧ Fr [] K hp0 u ∧ ((0 : Int) ≤ r.toInt ∧ r.toInt ≤ 1)) G (fun u => va_pl Ls (cellOf cy K ln u)) (va_A (va_pl Ls (cellOf cy K ln hp0)) sz)) 0 0 (va_A (va_pl Ls (cellOf cy K ln hp0)) sz) := by
  refine met_of2 (y := yX12_isTrue) (L := 2) (av := [.ref qa900, .int zi901]) (Qc := fun A => QBi (S := (Nat → Nat → Value)) (fun (r : Int32) (u : (Nat → Nat → Value)) => Ok K u ∧ Fr [] K hp0 u ∧ ((0 : Int) ≤ r.toInt ∧ r.toInt ≤ 1)) G (fun u => va_pl Ls (cellOf cy K ln u)) A) (plainFor_of_name (by decide)) (Nat.le_of_ble_eq_true rfl) ?_
  intro p e s m below meth c hsz hx hb hr hml hown hT hlocks hin hK A hA hE hw hS ls hl
  have hw : PW G cy K ln Ls A hp0 s.heap := hw
  have hown : s.vm.findClass "LieClockModel" = some m.cls := hown
  have hl : lv_has ls 2 [(0, .ref qa900), (1, .int zi901)] := hl
  obtain ⟨Q, hQ⟩ : ∃ Q : State → Prop, Q = MQ below (QBi (S := (Nat → Nat → Value)) (fun (r : Int32) (u : (Nat → Nat → Value)) => Ok K u ∧ Fr [] K hp0 u ∧ ((0 : Int) ≤ r.toInt ∧ r.toInt ≤ 1)) G (fun u => va_pl Ls (cellOf cy K ln u)) A) ([.ref qa900, .int zi901] : List Value).toArray s 0 0 A := ⟨_, rfl⟩
  rw [← hQ]
  refine lv_aload_n hx hb dX12_isTrue_0 rfl (lv_at hl 0 rfl) ?_
  refine lv_iload_n hx hb dX12_isTrue_1 rfl (lv_at hl 1 rfl) ?_
  refine kq_l hw hS hA (va_runV (As := [.int zi901]) (rest := []) ⟨hx, hb, hml, hown, hT⟩ (cX12_holdsOf_0 l G cy ev K ln Ls hW _ hp0 ok0 qa900 zi901 kd900 (b_wid2 bd901 (by decide) (by decide))) (cwV 1 hT (good_V tb_1750 tb_1747 tb_1749 tb_78 tb_122) rfl rfl rfl (by decide +kernel) ⟨Nat.le_of_ble_eq_true rfl, Nat.le_of_ble_eq_true rfl⟩) (pool_preV (ci := 12) hK hE hS hA hw hW kd900 (by decide) rfl) rfl rfl hl.1 rfl (lv_room (Nat.le_of_ble_eq_true rfl)) dX12_isTrue_2 ⟨Nat.le_of_ble_eq_true rfl, Nat.le_of_ble_eq_true rfl⟩) (fun wl5 hp1 H locs hq4 hw hS => ?_)
  obtain ⟨ok2, F3⟩ := hq4
  obtain rfl : hp0 = hp1 := (Fr.nil F3).symm
  have hw : PW G cy K ln Ls A hp0 H := hw
  refine lv_aload_n hx hb dX12_isTrue_5 rfl (lv_at hl 0 rfl) ?_
  obtain ⟨qa7, eq6, kd8⟩ := rd_13025 ok0 kd900
  refine p_get (ci := 12) (v := .ref qa7) (C := RX12) (T := TX12) (N := 69) hx hb hT iw_X12 hown hK hw hW kd900 (by decide) rfl rfl 25 (by decide) eq6 (hT _ tb_1399) (fun _ h9 => h9) dX12_isTrue_6 ?_
  refine lv_aload_n hx hb dX12_isTrue_9 rfl (lv_at hl 0 rfl) ?_
  obtain ⟨zi10, eq9, bd11⟩ := rd_13018 ok0 kd900
  refine p_get (ci := 12) (v := .int zi10) (C := RX12) (T := TX12) (N := 69) hx hb hT iw_X12 hown hK hw hW kd900 (by decide) rfl rfl 18 (by decide) eq9 (hT _ tb_1392) (fun _ h9 => h9) dX12_isTrue_10 ?_
  obtain ⟨zi13, eq12⟩ := rd_71000 ok0 kd8 ((zi10 : Int32).toNatClampNeg)
  refine p_iald (v := zi13) hx hb hK hw hW kd8 (by decide) rfl (hW.len kd8 (n := 2) rfl (by decide)) (vp_b bd11 (by decide) (by decide)) eq12 dX12_isTrue_13 ?_
  refine lv_lshr hx hb dX12_isTrue_14 rfl (lv_topl (fun wl14 _ => ?_))
  refine lv_lconst (v := 1) hx hb dX12_isTrue_15 (by decide) ?_
  refine lv_land hx hb dX12_isTrue_16 (lv_topl (fun wl15 _ => ?_))
  refine lv_lconst (v := 1) hx hb dX12_isTrue_17 (by decide) ?_
  refine W.lcmp hx hb dX12_isTrue_18 (lv_topi (fun zi16 ea17 => ?_))
  refine lv_if_ne (tgt := 26) hx hb dX12_isTrue_19 (by decide) (fun cn18 => ?_) (fun cn18 => ?_)
  · skip
    refine lv_iconst (v := 0) hx hb dX12_isTrue_26 (by decide) ?_
    rw [hQ]
    exact kz_i hx hb hr hlocks hS (nz_n bc_0 (by decide) (by decide)) hp0 hw ⟨ok0, (Fr.rf), (b_wid2 bc_0 (by decide) (by decide))⟩ (Nat.le_of_ble_eq_true rfl) (Nat.le_of_ble_eq_true rfl) dX12_isTrue_27
  · skip
    have bd19 : (0 : Int) ≤ zi16.toInt ∧ zi16.toInt ≤ 0 := r_eq_x cn18 (b_all zi16) bc_0 (by decide) (by decide)
    refine lv_iconst (v := 1) hx hb dX12_isTrue_22 (by decide) ?_
    refine lv_goto (tgt := 27) hx hb dX12_isTrue_23 (by decide) ?_
    rw [hQ]
    exact kz_i hx hb hr hlocks hS (nz_n bc_1 (by decide) (by decide)) hp0 hw ⟨ok0, (Fr.rf), (b_wid2 bc_1 (by decide) (by decide))⟩ (Nat.le_of_ble_eq_true rfl) (Nat.le_of_ble_eq_true rfl) dX12_isTrue_27

set_option maxRecDepth 100000 in
set_option maxHeartbeats 4000000 in
theorem cX12_copies_0 (l : Launch) (G : va_G) (cy : Nat → ClassId) (ev : Ew) (K ln : Nat → Nat) (Ls : List Nat) (hW : SW K ln Ls) (sz : Nat) (hp0 : Nat → Nat → Value) (ok0 : Ok K hp0) (qa900 : Nat) (kd900 : K qa900 = 13) : Met l yX12_copies (WS yX12_copies cX12_copies 2 none) { frames := 0, cells := 0, slots := 0, locals := 0 } (PB2 [.ref qa900] sz G cy ev (va_pl Ls (cellOf cy K ln hp0))) (QBv (S := (Nat → Nat → Value)) (fun u : (Nat → Nat → Value) => Ok K u ∧ Fr [93000] K hp0 u) G (fun u => va_pl Ls (cellOf cy K ln u)) (va_A (va_pl Ls (cellOf cy K ln hp0)) sz)) 0 0 (va_A (va_pl Ls (cellOf cy K ln hp0)) sz) := by
  refine met_of2 (y := yX12_copies) (L := 2) (av := [.ref qa900]) (Qc := fun A => QBv (S := (Nat → Nat → Value)) (fun u : (Nat → Nat → Value) => Ok K u ∧ Fr [93000] K hp0 u) G (fun u => va_pl Ls (cellOf cy K ln u)) A) (plainFor_of_name (by decide)) (Nat.le_of_ble_eq_true rfl) ?_
  intro p e s m below meth c hsz hx hb hr hml hown hT hlocks hin hK A hA hE hw hS ls hl
  have hw : PW G cy K ln Ls A hp0 s.heap := hw
  have hown : s.vm.findClass "LieClockModel" = some m.cls := hown
  have hl : lv_has ls 2 [(0, .ref qa900)] := hl
  obtain ⟨Q, hQ⟩ : ∃ Q : State → Prop, Q = MQ below (QBv (S := (Nat → Nat → Value)) (fun u : (Nat → Nat → Value) => Ok K u ∧ Fr [93000] K hp0 u) G (fun u => va_pl Ls (cellOf cy K ln u)) A) ([.ref qa900] : List Value).toArray s 0 0 A := ⟨_, rfl⟩
  rw [← hQ]
  refine lv_iconst (v := 0) hx hb dX12_copies_0 (by decide) ?_
  refine lv_istore_n (lv' := [(1, .int 0), (0, .ref qa900)]) hx hb dX12_copies_1 rfl hl (by decide) rfl (fun ls hl => ?_)
  have lp168 : ∀ (n166 : Nat) (hp124 : Nat → Nat → Value) (zi123 : Int32) (H : Heap) (locs : List Loc) (ls : Array Slot), 40 - zi123.toInt < (n166 : Int) → Ok K hp124 → Fr [93000] K hp0 hp124 → ((0 : Int) ≤ zi123.toInt ∧ zi123.toInt ≤ 40) → lv_has ls 2 [(0, .ref qa900), (1, .int zi123)] → PW G cy K ln Ls A hp124 H → va_S A s.heap H locs → W p l e ({ frames := 0, cells := 0, slots := 0, locals := 0 } : Room) s m ([.ref qa900] : List Value).toArray below meth c H locs 0 0 Q (F0 m 2 ls []) := by
    intro n166
    induction n166 with
    | zero =>
      intro hp124 zi123 H locs ls hm169 ok126 F125 bd127 hl hw hS
      exact absurd hm169 (by have := bd127; omega)
    | succ n166 ih167 =>
      intro hp124 zi123 H locs ls hm169 ok126 F125 bd127 hl hw hS
      refine lv_iload_n hx hb dX12_copies_2 rfl (lv_at hl 1 rfl) ?_
      refine lv_bipush (v := 40) hx hb dX12_copies_3 (by decide) ?_
      refine lv_icmp_ge (tgt := 26) hx hb dX12_copies_5 (by decide) (fun cn170 => ?_) (fun cn170 => ?_)
      · skip
        have bd171 : (40 : Int) ≤ zi123.toInt ∧ zi123.toInt ≤ 40 := r_le_y cn170 bc_40 bd127 (by decide) (by decide)
        rw [hQ]
        exact kz_v hx hb hr hlocks hS hp124 hw ⟨ok126, (Fr.tr (Fr.rf) F125 (by decide))⟩ (Nat.le_of_ble_eq_true rfl) (Nat.le_of_ble_eq_true rfl) dX12_copies_26
      · skip
        have bd172 : (0 : Int) ≤ zi123.toInt ∧ zi123.toInt ≤ 39 := r_lt_x (Int32.not_le.mp cn170) bd127 bc_40 (by decide) (by decide)
        refine lv_aload_n hx hb dX12_copies_8 rfl (lv_at hl 0 rfl) ?_
        obtain ⟨qa174, eq173, kd175⟩ := rd_13050 ok126 kd900
        refine p_get (ci := 12) (v := .ref qa174) (C := RX12) (T := TX12) (N := 69) hx hb hT iw_X12 hown hK hw hW kd900 (by decide) rfl rfl 50 (by decide) eq173 (hT _ tb_1424) (fun _ h9 => h9) dX12_copies_9 ?_
        refine lv_iload_n hx hb dX12_copies_12 rfl (lv_at hl 1 rfl) ?_
        refine lv_aload_n hx hb dX12_copies_13 rfl (lv_at hl 0 rfl) ?_
        obtain ⟨qa177, eq176, kd178⟩ := rd_13049 ok126 kd900
        refine p_get (ci := 12) (v := .ref qa177) (C := RX12) (T := TX12) (N := 69) hx hb hT iw_X12 hown hK hw hW kd900 (by decide) rfl rfl 49 (by decide) eq176 (hT _ tb_1423) (fun _ h9 => h9) dX12_copies_14 ?_
        refine lv_iload_n hx hb dX12_copies_17 rfl (lv_at hl 1 rfl) ?_
        obtain ⟨zi180, eq179⟩ := rd_92000 ok126 kd178 ((zi123 : Int32).toNatClampNeg)
        refine p_iald (v := zi180) hx hb hK hw hW kd178 (by decide) rfl (hW.len kd178 (n := 40) rfl (by decide)) (vp_b bd172 (by decide) (by decide)) eq179 dX12_copies_18 ?_
        refine p_iast (x := zi180) hx hb hK hw hS hW kd175 (by decide) rfl (hW.len kd175 (n := 40) rfl (by decide)) (vp_b bd172 (by decide) (by decide)) dX12_copies_19 (fun hp181 eh182 H locs hw hS => ?_)
        have ok183 := wr_93000 ok126 kd175 eh182
        obtain ⟨zi184, ea185⟩ : ∃ z : Int32, z = zi123 + 1 := ⟨_, rfl⟩
        have bd186 : (1 : Int) ≤ zi184.toInt ∧ zi184.toInt ≤ 40 := b_iadd ea185 bd172 bc_1 (by decide) (by decide) (by decide) (by decide)
        have qe187 : zi184.toInt = (zi123 : Int32).toInt + (1 : Int32).toInt := e_iadd ea185 bd172 bc_1 (by decide) (by decide)
        have qe188 : zi184.toInt = zi123.toInt + 1 := by have ha : (1 : Int32).toInt = 1 := (by decide); rw [ha] at qe187; exact qe187
        refine lv_iinc (v := zi184) (lv' := [(1, .int zi184), (0, .ref qa900)]) hx hb dX12_copies_20 hl (k := 1) rfl ea185.symm (by decide) rfl (fun ls hl => ?_)
        refine lv_goto (tgt := 2) hx hb dX12_copies_23 (by decide) ?_
        exact ih167 hp181 zi184 _ _ ls (by have := hm169; have := qe188; omega) ok183 (Fr.put (cq := 93000) (Fr.tr (Fr.rf) F125 (by decide)) eh182 kd175 (cd_a (by decide)) (by decide)) (b_wid2 bd186 (by decide) (by decide)) (lv_sub hl [1, 0] rfl) hw hS
  exact lp168 _ hp0 0 _ _ ls (lp_in _) ok0 (Fr.rf) (b_wid2 bc_0 (by decide) (by decide)) (lv_sub hl [1, 0] rfl) hw hS

set_option maxRecDepth 100000 in
set_option maxHeartbeats 4000000 in
theorem cX12_bits_0 (l : Launch) (G : va_G) (cy : Nat → ClassId) (ev : Ew) (K ln : Nat → Nat) (Ls : List Nat) (hW : SW K ln Ls) (sz : Nat) (hp0 : Nat → Nat → Value) (ok0 : Ok K hp0) (zi900 : Int32)  : Met l yX12_bits (WS yX12_bits cX12_bits 3 (some .int)) { frames := 0, cells := 0, slots := 0, locals := 0 } (PB2 [.int zi900] sz G cy ev (va_pl Ls (cellOf cy K ln hp0))) (QBi (S := (Nat → Nat → Value)) (fun (r : Int32) (u : (Nat → Nat → Value)) => Ok K u ∧ Fr [] K hp0 u ∧ ((0 : Int) ≤ r.toInt ∧ r.toInt ≤ 16) ∧ r = bsf zi900 ∧ (r.toInt = bsx zi900 16)) G (fun u => va_pl Ls (cellOf cy K ln u)) (va_A (va_pl Ls (cellOf cy K ln hp0)) sz)) 0 0 (va_A (va_pl Ls (cellOf cy K ln hp0)) sz) := by
  refine met_of2 (y := yX12_bits) (L := 3) (av := [.int zi900]) (Qc := fun A => QBi (S := (Nat → Nat → Value)) (fun (r : Int32) (u : (Nat → Nat → Value)) => Ok K u ∧ Fr [] K hp0 u ∧ ((0 : Int) ≤ r.toInt ∧ r.toInt ≤ 16) ∧ r = bsf zi900 ∧ (r.toInt = bsx zi900 16)) G (fun u => va_pl Ls (cellOf cy K ln u)) A) (plainFor_of_name (by decide)) (Nat.le_of_ble_eq_true rfl) ?_
  intro p e s m below meth c hsz hx hb hr hml hown hT hlocks hin hK A hA hE hw hS ls hl
  have hw : PW G cy K ln Ls A hp0 s.heap := hw
  have hown : s.vm.findClass "LieClockModel" = some m.cls := hown
  have hl : lv_has ls 3 [(0, .int zi900)] := hl
  obtain ⟨Q, hQ⟩ : ∃ Q : State → Prop, Q = MQ below (QBi (S := (Nat → Nat → Value)) (fun (r : Int32) (u : (Nat → Nat → Value)) => Ok K u ∧ Fr [] K hp0 u ∧ ((0 : Int) ≤ r.toInt ∧ r.toInt ≤ 16) ∧ r = bsf zi900 ∧ (r.toInt = bsx zi900 16)) G (fun u => va_pl Ls (cellOf cy K ln u)) A) ([.int zi900] : List Value).toArray s 0 0 A := ⟨_, rfl⟩
  rw [← hQ]
  refine lv_iconst (v := 0) hx hb dX12_bits_0 (by decide) ?_
  refine lv_istore_n (lv' := [(1, .int 0), (0, .int zi900)]) hx hb dX12_bits_1 rfl hl (by decide) rfl (fun ls hl => ?_)
  refine lv_iconst (v := 0) hx hb dX12_bits_2 (by decide) ?_
  refine lv_istore_n (lv' := [(2, .int 0), (1, .int 0), (0, .int zi900)]) hx hb dX12_bits_3 rfl hl (by decide) rfl (fun ls hl => ?_)
  have lp100 : ∀ (n98 : Nat) (zi53 : Int32) (zi54 : Int32) (H : Heap) (locs : List Loc) (ls : Array Slot), 16 - zi54.toInt < (n98 : Int) → ((0 : Int) ≤ zi53.toInt ∧ zi53.toInt ≤ 16) → ((0 : Int) ≤ zi54.toInt ∧ zi54.toInt ≤ 16) → ((zi53 : Int32).toInt ≤ (zi54 : Int32).toInt) → (0 ≤ (zi53 : Int32).toInt) → ((zi53 : Int32).toInt = bsx zi900 (zi54 : Int32).toNatClampNeg) → lv_has ls 3 [(0, .int zi900), (1, .int zi53), (2, .int zi54)] → PW G cy K ln Ls A hp0 H → va_S A s.heap H locs → W p l e ({ frames := 0, cells := 0, slots := 0, locals := 0 } : Room) s m ([.int zi900] : List Value).toArray below meth c H locs 0 0 Q (F0 m 4 ls []) := by
    intro n98
    induction n98 with
    | zero =>
      intro zi53 zi54 H locs ls hm101 bd58 bd59 rq55 rq56 jx57 hl hw hS
      exact absurd hm101 (by have := bd59; omega)
    | succ n98 ih99 =>
      intro zi53 zi54 H locs ls hm101 bd58 bd59 rq55 rq56 jx57 hl hw hS
      refine lv_iload_n hx hb dX12_bits_4 rfl (lv_at hl 2 rfl) ?_
      refine lv_bipush (v := 16) hx hb dX12_bits_5 (by decide) ?_
      refine lv_icmp_ge (tgt := 24) hx hb dX12_bits_7 (by decide) (fun cn102 => ?_) (fun cn102 => ?_)
      · skip
        have bd121 : (16 : Int) ≤ zi54.toInt ∧ zi54.toInt ≤ 16 := r_le_y cn102 bc_16 bd59 (by decide) (by decide)
        refine lv_iload_n hx hb dX12_bits_24 rfl (lv_at hl 1 rfl) ?_
        rw [hQ]
        exact kz_i hx hb hr hlocks hS rfl hp0 hw ⟨ok0, (Fr.rf), (b_wid2 bd58 (by decide) (by decide)), (bsf_of (by rw [jx57, show (zi54 : Int32).toNatClampNeg = 16 from by have := clampN (x := zi54) (by omega); omega])), (by rw [jx57, show (zi54 : Int32).toNatClampNeg = 16 from by have := clampN (x := zi54) (by omega); omega])⟩ (Nat.le_of_ble_eq_true rfl) (Nat.le_of_ble_eq_true rfl) dX12_bits_25
      · skip
        have bd122 : (0 : Int) ≤ zi54.toInt ∧ zi54.toInt ≤ 15 := r_lt_x (Int32.not_le.mp cn102) bd59 bc_16 (by decide) (by decide)
        refine lv_iload_n hx hb dX12_bits_10 rfl (lv_at hl 1 rfl) ?_
        refine lv_iload_n hx hb dX12_bits_11 rfl (lv_at hl 0 rfl) ?_
        refine lv_iload_n hx hb dX12_bits_12 rfl (lv_at hl 2 rfl) ?_
        refine lv_ishr hx hb dX12_bits_13 (lv_topi (fun zi123 ea124 => ?_))
        refine lv_iconst (v := 1) hx hb dX12_bits_14 (by decide) ?_
        refine lv_iand hx hb dX12_bits_15 (lv_topi (fun zi125 ea126 => ?_))
        have bd127 : (0 : Int) ≤ zi125.toInt ∧ zi125.toInt ≤ 1 := b_and_r ea126 bc_1 (by decide) (by decide) (by decide)
        refine lv_iadd hx hb dX12_bits_16 (lv_topi (fun zi128 ea129 => ?_))
        have bd130 : (0 : Int) ≤ zi128.toInt ∧ zi128.toInt ≤ 17 := b_iadd ea129 bd58 bd127 (by decide) (by decide) (by decide) (by decide)
        have qe131 : zi128.toInt = zi53.toInt + zi125.toInt := e_iadd ea129 bd58 bd127 (by decide) (by decide)
        refine lv_istore_n (lv' := [(1, .int zi128), (0, .int zi900), (2, .int zi54)]) hx hb dX12_bits_17 rfl hl (by decide) rfl (fun ls hl => ?_)
        obtain ⟨zi132, ea133⟩ : ∃ z : Int32, z = zi54 + 1 := ⟨_, rfl⟩
        have bd134 : (1 : Int) ≤ zi132.toInt ∧ zi132.toInt ≤ 16 := b_iadd ea133 bd122 bc_1 (by decide) (by decide) (by decide) (by decide)
        have qe135 : zi132.toInt = (zi54 : Int32).toInt + (1 : Int32).toInt := e_iadd ea133 bd122 bc_1 (by decide) (by decide)
        have qe136 : zi132.toInt = zi54.toInt + 1 := by have ha : (1 : Int32).toInt = 1 := (by decide); rw [ha] at qe135; exact qe135
        refine lv_iinc (v := zi132) (lv' := [(2, .int zi132), (1, .int zi128), (0, .int zi900)]) hx hb dX12_bits_18 hl (k := 2) rfl ea133.symm (by decide) rfl (fun ls hl => ?_)
        have bd138 : (0 : Int) ≤ zi128.toInt ∧ zi128.toInt ≤ 16 := (by omega)
        have bs137 := bsx_next ea124 ea126 jx57 (by omega) (show (zi128 : Int32).toInt = _ + _ from qe131) (show (zi132 : Int32).toInt = _ + 1 from qe136)
        refine lv_goto (tgt := 4) hx hb dX12_bits_21 (by decide) ?_
        exact ih99 zi128 zi132 _ _ ls (by have := hm101; have := qe136; omega) (b_wid2 bd138 (by decide) (by decide)) (b_wid2 bd134 (by decide) (by decide)) (by omega) (by omega) bs137 (lv_sub hl [2, 1, 0] rfl) hw hS
  exact lp100 _ 0 0 _ _ ls (lp_in _) (b_wid2 bc_0 (by decide) (by decide)) (b_wid2 bc_0 (by decide) (by decide)) (by have := toi bc_0; omega) (by have := toi bc_0; omega) (bsx_zero _) (lv_sub hl [2, 1, 0] rfl) hw hS

set_option maxRecDepth 100000 in
set_option maxHeartbeats 4000000 in
theorem cX12_many_0 (l : Launch) (G : va_G) (cy : Nat → ClassId) (ev : Ew) (K ln : Nat → Nat) (Ls : List Nat) (hW : SW K ln Ls) (sz : Nat) (hp0 : Nat → Nat → Value) (ok0 : Ok K hp0) (wl900 : Int64)  : Met l yX12_many (WS yX12_many cX12_many 4 (some .int)) { frames := 0, cells := 0, slots := 0, locals := 0 } (PB2 [.long wl900] sz G cy ev (va_pl Ls (cellOf cy K ln hp0))) (QBi (S := (Nat → Nat → Value)) (fun (r : Int32) (u : (Nat → Nat → Value)) => Ok K u ∧ Fr [] K hp0 u) G (fun u => va_pl Ls (cellOf cy K ln u)) (va_A (va_pl Ls (cellOf cy K ln hp0)) sz)) 0 0 (va_A (va_pl Ls (cellOf cy K ln hp0)) sz) := by
  refine met_of2 (y := yX12_many) (L := 4) (av := [.long wl900]) (Qc := fun A => QBi (S := (Nat → Nat → Value)) (fun (r : Int32) (u : (Nat → Nat → Value)) => Ok K u ∧ Fr [] K hp0 u) G (fun u => va_pl Ls (cellOf cy K ln u)) A) (plainFor_of_name (by decide)) (Nat.le_of_ble_eq_true rfl) ?_
  intro p e s m below meth c hsz hx hb hr hml hown hT hlocks hin hK A hA hE hw hS ls hl
  have hw : PW G cy K ln Ls A hp0 s.heap := hw
  have hown : s.vm.findClass "LieClockModel" = some m.cls := hown
  have hl : lv_has ls 4 [(0, .long wl900)] := hl
  obtain ⟨Q, hQ⟩ : ∃ Q : State → Prop, Q = MQ below (QBi (S := (Nat → Nat → Value)) (fun (r : Int32) (u : (Nat → Nat → Value)) => Ok K u ∧ Fr [] K hp0 u) G (fun u => va_pl Ls (cellOf cy K ln u)) A) ([.long wl900] : List Value).toArray s 0 0 A := ⟨_, rfl⟩
  rw [← hQ]
  refine lv_iconst (v := 0) hx hb dX12_many_0 (by decide) ?_
  refine lv_istore_n (lv' := [(2, .int 0), (0, .long wl900)]) hx hb dX12_many_1 rfl hl (by decide) rfl (fun ls hl => ?_)
  refine lv_iconst (v := 0) hx hb dX12_many_2 (by decide) ?_
  refine lv_istore_n (lv' := [(3, .int 0), (2, .int 0), (0, .long wl900)]) hx hb dX12_many_3 rfl hl (by decide) rfl (fun ls hl => ?_)
  have lp116 : ∀ (n114 : Nat) (zi83 : Int32) (zi84 : Int32) (H : Heap) (locs : List Loc) (ls : Array Slot), 64 - zi84.toInt < (n114 : Int) → ((0 : Int) ≤ zi84.toInt ∧ zi84.toInt ≤ 64) → lv_has ls 4 [(0, .long wl900), (2, .int zi83), (3, .int zi84)] → PW G cy K ln Ls A hp0 H → va_S A s.heap H locs → W p l e ({ frames := 0, cells := 0, slots := 0, locals := 0 } : Room) s m ([.long wl900] : List Value).toArray below meth c H locs 0 0 Q (F0 m 4 ls []) := by
    intro n114
    induction n114 with
    | zero =>
      intro zi83 zi84 H locs ls hm117 bd85 hl hw hS
      exact absurd hm117 (by have := bd85; omega)
    | succ n114 ih115 =>
      intro zi83 zi84 H locs ls hm117 bd85 hl hw hS
      refine lv_iload_n hx hb dX12_many_4 rfl (lv_at hl 2 rfl) ?_
      refine lv_bipush (v := 64) hx hb dX12_many_5 (by decide) ?_
      refine lv_icmp_ge (tgt := 25) hx hb dX12_many_7 (by decide) (fun cn118 => ?_) (fun cn118 => ?_)
      · skip
        have bd132 : (64 : Int) ≤ zi84.toInt ∧ zi84.toInt ≤ 64 := r_le_y cn118 bc_64 bd85 (by decide) (by decide)
        refine lv_iload_n hx hb dX12_many_25 rfl (lv_at hl 1 rfl) ?_
        rw [hQ]
        exact kz_i hx hb hr hlocks hS rfl hp0 hw ⟨ok0, (Fr.rf)⟩ (Nat.le_of_ble_eq_true rfl) (Nat.le_of_ble_eq_true rfl) dX12_many_26
      · skip
        have bd133 : (0 : Int) ≤ zi84.toInt ∧ zi84.toInt ≤ 63 := r_lt_x (Int32.not_le.mp cn118) bd85 bc_64 (by decide) (by decide)
        refine lv_iload_n hx hb dX12_many_10 rfl (lv_at hl 1 rfl) ?_
        refine lv_lload_n hx hb dX12_many_11 rfl (lv_at hl 0 rfl) ?_
        refine lv_iload_n hx hb dX12_many_12 rfl (lv_at hl 2 rfl) ?_
        refine lv_lshr hx hb dX12_many_13 rfl (lv_topl (fun wl134 _ => ?_))
        refine lv_lconst (v := 1) hx hb dX12_many_14 (by decide) ?_
        refine lv_land hx hb dX12_many_15 (lv_topl (fun wl135 _ => ?_))
        refine lv_l2i hx hb dX12_many_16 rfl (lv_topi (fun zi136 ea137 => ?_))
        refine lv_iadd hx hb dX12_many_17 (lv_topi (fun zi138 ea139 => ?_))
        refine lv_istore_n (lv' := [(2, .int zi138), (0, .long wl900), (3, .int zi84)]) hx hb dX12_many_18 rfl hl (by decide) rfl (fun ls hl => ?_)
        obtain ⟨zi140, ea141⟩ : ∃ z : Int32, z = zi84 + 1 := ⟨_, rfl⟩
        have bd142 : (1 : Int) ≤ zi140.toInt ∧ zi140.toInt ≤ 64 := b_iadd ea141 bd133 bc_1 (by decide) (by decide) (by decide) (by decide)
        have qe143 : zi140.toInt = (zi84 : Int32).toInt + (1 : Int32).toInt := e_iadd ea141 bd133 bc_1 (by decide) (by decide)
        have qe144 : zi140.toInt = zi84.toInt + 1 := by have ha : (1 : Int32).toInt = 1 := (by decide); rw [ha] at qe143; exact qe143
        refine lv_iinc (v := zi140) (lv' := [(3, .int zi140), (2, .int zi138), (0, .long wl900)]) hx hb dX12_many_19 hl (k := 2) rfl ea141.symm (by decide) rfl (fun ls hl => ?_)
        refine lv_goto (tgt := 4) hx hb dX12_many_22 (by decide) ?_
        exact ih115 zi138 zi140 _ _ ls (by have := hm117; have := qe144; omega) (b_wid2 bd142 (by decide) (by decide)) (lv_sub hl [2, 1, 0] rfl) hw hS
  exact lp116 _ 0 0 _ _ ls (lp_in _) (b_wid2 bc_0 (by decide) (by decide)) (lv_sub hl [2, 1, 0] rfl) hw hS

set_option maxRecDepth 100000 in
set_option maxHeartbeats 4000000 in
theorem cX12_allStates_0 (l : Launch) (G : va_G) (cy : Nat → ClassId) (ev : Ew) (K ln : Nat → Nat) (Ls : List Nat) (hW : SW K ln Ls) (sz : Nat) (hp0 : Nat → Nat → Value) (ok0 : Ok K hp0) (qa900 : Nat) (kd900 : K qa900 = 13) : Met l yX12_allStates (WS yX12_allStates cX12_allStates 2 (some .long)) { frames := 0, cells := 0, slots := 0, locals := 0 } (PB2 [.ref qa900] sz G cy ev (va_pl Ls (cellOf cy K ln hp0))) (QBl (S := (Nat → Nat → Value)) (fun (r : Int64) (u : (Nat → Nat → Value)) => Ok K u ∧ Fr [] K hp0 u) G (fun u => va_pl Ls (cellOf cy K ln u)) (va_A (va_pl Ls (cellOf cy K ln hp0)) sz)) 0 0 (va_A (va_pl Ls (cellOf cy K ln hp0)) sz) := by
  refine met_of2 (y := yX12_allStates) (L := 2) (av := [.ref qa900]) (Qc := fun A => QBl (S := (Nat → Nat → Value)) (fun (r : Int64) (u : (Nat → Nat → Value)) => Ok K u ∧ Fr [] K hp0 u) G (fun u => va_pl Ls (cellOf cy K ln u)) A) (plainFor_of_name (by decide)) (Nat.le_of_ble_eq_true rfl) ?_
  intro p e s m below meth c hsz hx hb hr hml hown hT hlocks hin hK A hA hE hw hS ls hl
  have hw : PW G cy K ln Ls A hp0 s.heap := hw
  have hown : s.vm.findClass "LieClockModel" = some m.cls := hown
  have hl : lv_has ls 2 [(0, .ref qa900)] := hl
  obtain ⟨Q, hQ⟩ : ∃ Q : State → Prop, Q = MQ below (QBl (S := (Nat → Nat → Value)) (fun (r : Int64) (u : (Nat → Nat → Value)) => Ok K u ∧ Fr [] K hp0 u) G (fun u => va_pl Ls (cellOf cy K ln u)) A) ([.ref qa900] : List Value).toArray s 0 0 A := ⟨_, rfl⟩
  rw [← hQ]
  refine lv_iconst (v := 1) hx hb dX12_allStates_0 (by decide) ?_
  refine lv_aload_n hx hb dX12_allStates_1 rfl (lv_at hl 0 rfl) ?_
  obtain ⟨qa2, eq1, kd3⟩ := rd_13024 ok0 kd900
  refine p_get (ci := 12) (v := .ref qa2) (C := RX12) (T := TX12) (N := 69) hx hb hT iw_X12 hown hK hw hW kd900 (by decide) rfl rfl 24 (by decide) eq1 (hT _ tb_1398) (fun _ h9 => h9) dX12_allStates_2 ?_
  refine lv_aload_n hx hb dX12_allStates_5 rfl (lv_at hl 0 rfl) ?_
  obtain ⟨zi5, eq4, bd6⟩ := rd_13018 ok0 kd900
  refine p_get (ci := 12) (v := .int zi5) (C := RX12) (T := TX12) (N := 69) hx hb hT iw_X12 hown hK hw hW kd900 (by decide) rfl rfl 18 (by decide) eq4 (hT _ tb_1392) (fun _ h9 => h9) dX12_allStates_6 ?_
  obtain ⟨zi8, eq7, bd9⟩ := rd_70000 ok0 kd3 ((zi5 : Int32).toNatClampNeg)
  refine p_iald (v := zi8) hx hb hK hw hW kd3 (by decide) rfl (hW.len kd3 (n := 2) rfl (by decide)) (vp_b bd6 (by decide) (by decide)) eq7 dX12_allStates_9 ?_
  refine lv_ishl hx hb dX12_allStates_10 (lv_topi (fun zi10 ea11 => ?_))
  have bd12 : (1 : Int) ≤ zi10.toInt ∧ zi10.toInt ≤ 64 := b_shl1 6 ea11 bd9 (by decide) (by decide) (by decide) (by decide) (by decide)
  refine lv_istore_n (lv' := [(1, .int zi10), (0, .ref qa900)]) hx hb dX12_allStates_11 rfl hl (by decide) rfl (fun ls hl => ?_)
  refine lv_iload_n hx hb dX12_allStates_12 rfl (lv_at hl 0 rfl) ?_
  refine lv_bipush (v := 64) hx hb dX12_allStates_13 (by decide) ?_
  refine lv_icmp_ne (tgt := 24) hx hb dX12_allStates_15 (by decide) (fun cn13 => ?_) (fun cn13 => ?_)
  · skip
    have bd14 : (1 : Int) ≤ zi10.toInt ∧ zi10.toInt ≤ 63 := r_ne_hi cn13 bd12 (toi bc_64) (by decide) (by decide)
    refine lv_lconst (v := 1) hx hb dX12_allStates_24 (by decide) ?_
    refine lv_iload_n hx hb dX12_allStates_25 rfl (lv_at hl 0 rfl) ?_
    refine lv_lshl hx hb dX12_allStates_26 rfl (lv_topl (fun wl15 _ => ?_))
    refine lv_lconst (v := 1) hx hb dX12_allStates_27 (by decide) ?_
    refine lv_lsub hx hb dX12_allStates_28 (lv_topl (fun wl16 _ => ?_))
    rw [hQ]
    exact kz_l hx hb hr hlocks hS hp0 hw ⟨ok0, (Fr.rf)⟩ (Nat.le_of_ble_eq_true rfl) (Nat.le_of_ble_eq_true rfl) dX12_allStates_29
  · skip
    have bd17 : (64 : Int) ≤ zi10.toInt ∧ zi10.toInt ≤ 64 := r_eq_x cn13 bd12 bc_64 (by decide) (by decide)
    refine lv_ldc2 (v := (-1)) hx hb hown (hT _ tb_1680) dX12_allStates_18 ?_
    refine lv_goto (tgt := 29) hx hb dX12_allStates_21 (by decide) ?_
    rw [hQ]
    exact kz_l hx hb hr hlocks hS hp0 hw ⟨ok0, (Fr.rf)⟩ (Nat.le_of_ble_eq_true rfl) (Nat.le_of_ble_eq_true rfl) dX12_allStates_29

set_option maxRecDepth 100000 in
set_option maxHeartbeats 4000000 in
theorem cX12_mayBe_0 (l : Launch) (G : va_G) (cy : Nat → ClassId) (ev : Ew) (K ln : Nat → Nat) (Ls : List Nat) (hW : SW K ln Ls) (sz : Nat) (hp0 : Nat → Nat → Value) (ok0 : Ok K hp0) (qa900 : Nat) (zi901 : Int32) (kd900 : K qa900 = 13) : Met l yX12_mayBe (WS yX12_mayBe cX12_mayBe 5 (some .long)) { frames := 0, cells := 0, slots := 0, locals := 0 } (PB2 [.ref qa900, .int zi901] sz G cy ev (va_pl Ls (cellOf cy K ln hp0))) (QBl (S := (Nat → Nat → Value)) (fun (r : Int64) (u : (Nat → Nat → Value)) => Ok K u ∧ Fr [] K hp0 u) G (fun u => va_pl Ls (cellOf cy K ln u)) (va_A (va_pl Ls (cellOf cy K ln hp0)) sz)) 0 0 (va_A (va_pl Ls (cellOf cy K ln hp0)) sz) := by
  refine met_of2 (y := yX12_mayBe) (L := 5) (av := [.ref qa900, .int zi901]) (Qc := fun A => QBl (S := (Nat → Nat → Value)) (fun (r : Int64) (u : (Nat → Nat → Value)) => Ok K u ∧ Fr [] K hp0 u) G (fun u => va_pl Ls (cellOf cy K ln u)) A) (plainFor_of_name (by decide)) (Nat.le_of_ble_eq_true rfl) ?_
  intro p e s m below meth c hsz hx hb hr hml hown hT hlocks hin hK A hA hE hw hS ls hl
  have hw : PW G cy K ln Ls A hp0 s.heap := hw
  have hown : s.vm.findClass "LieClockModel" = some m.cls := hown
  have hl : lv_has ls 5 [(0, .ref qa900), (1, .int zi901)] := hl
  obtain ⟨Q, hQ⟩ : ∃ Q : State → Prop, Q = MQ below (QBl (S := (Nat → Nat → Value)) (fun (r : Int64) (u : (Nat → Nat → Value)) => Ok K u ∧ Fr [] K hp0 u) G (fun u => va_pl Ls (cellOf cy K ln u)) A) ([.ref qa900, .int zi901] : List Value).toArray s 0 0 A := ⟨_, rfl⟩
  rw [← hQ]
  refine lv_lconst (v := 0) hx hb dX12_mayBe_0 (by decide) ?_
  refine lv_lstore_n (lv' := [(2, .long 0), (0, .ref qa900), (1, .int zi901)]) hx hb dX12_mayBe_1 rfl hl (by decide) rfl (fun ls hl => ?_)
  refine lv_iconst (v := 0) hx hb dX12_mayBe_2 (by decide) ?_
  refine lv_istore (lv' := [(4, .int 0), (2, .long 0), (0, .ref qa900), (1, .int zi901)]) hx hb dX12_mayBe_3 hl (by decide) rfl (fun ls hl => ?_)
  have lp317 : ∀ (n315 : Nat) (wl236 : Int64) (zi237 : Int32) (H : Heap) (locs : List Loc) (ls : Array Slot), 64 - zi237.toInt < (n315 : Int) → ((0 : Int) ≤ zi237.toInt ∧ zi237.toInt ≤ 64) → lv_has ls 5 [(0, .ref qa900), (1, .int zi901), (2, .long wl236), (4, .int zi237)] → PW G cy K ln Ls A hp0 H → va_S A s.heap H locs → W p l e ({ frames := 0, cells := 0, slots := 0, locals := 0 } : Room) s m ([.ref qa900, .int zi901] : List Value).toArray below meth c H locs 0 0 Q (F0 m 5 ls []) := by
    intro n315
    induction n315 with
    | zero =>
      intro wl236 zi237 H locs ls hm318 bd238 hl hw hS
      exact absurd hm318 (by have := bd238; omega)
    | succ n315 ih316 =>
      intro wl236 zi237 H locs ls hm318 bd238 hl hw hS
      refine lv_iload hx hb dX12_mayBe_5 (lv_at hl 3 rfl) ?_
      refine lv_iconst (v := 1) hx hb dX12_mayBe_7 (by decide) ?_
      refine lv_aload_n hx hb dX12_mayBe_8 rfl (lv_at hl 0 rfl) ?_
      obtain ⟨qa320, eq319, kd321⟩ := rd_13024 ok0 kd900
      refine p_get (ci := 12) (v := .ref qa320) (C := RX12) (T := TX12) (N := 69) hx hb hT iw_X12 hown hK hw hW kd900 (by decide) rfl rfl 24 (by decide) eq319 (hT _ tb_1398) (fun _ h9 => h9) dX12_mayBe_9 ?_
      refine lv_aload_n hx hb dX12_mayBe_12 rfl (lv_at hl 0 rfl) ?_
      obtain ⟨zi323, eq322, bd324⟩ := rd_13018 ok0 kd900
      refine p_get (ci := 12) (v := .int zi323) (C := RX12) (T := TX12) (N := 69) hx hb hT iw_X12 hown hK hw hW kd900 (by decide) rfl rfl 18 (by decide) eq322 (hT _ tb_1392) (fun _ h9 => h9) dX12_mayBe_13 ?_
      obtain ⟨zi326, eq325, bd327⟩ := rd_70000 ok0 kd321 ((zi323 : Int32).toNatClampNeg)
      refine p_iald (v := zi326) hx hb hK hw hW kd321 (by decide) rfl (hW.len kd321 (n := 2) rfl (by decide)) (vp_b bd324 (by decide) (by decide)) eq325 dX12_mayBe_16 ?_
      refine lv_ishl hx hb dX12_mayBe_17 (lv_topi (fun zi328 ea329 => ?_))
      have bd330 : (1 : Int) ≤ zi328.toInt ∧ zi328.toInt ≤ 64 := b_shl1 6 ea329 bd327 (by decide) (by decide) (by decide) (by decide) (by decide)
      refine lv_icmp_ge (tgt := 51) hx hb dX12_mayBe_18 (by decide) (fun cn331 => ?_) (fun cn331 => ?_)
      · skip
        have bd357 : (1 : Int) ≤ zi237.toInt ∧ zi237.toInt ≤ 64 := r_le_y cn331 bd330 bd238 (by decide) (by decide)
        refine lv_lload_n hx hb dX12_mayBe_51 rfl (lv_at hl 2 rfl) ?_
        rw [hQ]
        exact kz_l hx hb hr hlocks hS hp0 hw ⟨ok0, (Fr.rf)⟩ (Nat.le_of_ble_eq_true rfl) (Nat.le_of_ble_eq_true rfl) dX12_mayBe_52
      · skip
        have bd358 : (0 : Int) ≤ zi237.toInt ∧ zi237.toInt ≤ 63 := r_lt_x (Int32.not_le.mp cn331) bd238 bd330 (by decide) (by decide)
        refine lv_iload hx hb dX12_mayBe_21 (lv_at hl 3 rfl) ?_
        refine lv_aload_n hx hb dX12_mayBe_23 rfl (lv_at hl 0 rfl) ?_
        obtain ⟨qa360, eq359, kd361⟩ := rd_13025 ok0 kd900
        refine p_get (ci := 12) (v := .ref qa360) (C := RX12) (T := TX12) (N := 69) hx hb hT iw_X12 hown hK hw hW kd900 (by decide) rfl rfl 25 (by decide) eq359 (hT _ tb_1399) (fun _ h9 => h9) dX12_mayBe_24 ?_
        refine lv_aload_n hx hb dX12_mayBe_27 rfl (lv_at hl 0 rfl) ?_
        refine p_get (ci := 12) (v := .int zi323) (C := RX12) (T := TX12) (N := 69) hx hb hT iw_X12 hown hK hw hW kd900 (by decide) rfl rfl 18 (by decide) eq322 (hT _ tb_1392) (fun _ h9 => h9) dX12_mayBe_28 ?_
        obtain ⟨zi363, eq362⟩ := rd_71000 ok0 kd361 ((zi323 : Int32).toNatClampNeg)
        refine p_iald (v := zi363) hx hb hK hw hW kd361 (by decide) rfl (hW.len kd361 (n := 2) rfl (by decide)) (vp_b bd324 (by decide) (by decide)) eq362 dX12_mayBe_31 ?_
        refine lv_ixor hx hb dX12_mayBe_32 (lv_topi (fun zi364 ea365 => ?_))
        refine lv_iload_n hx hb dX12_mayBe_33 rfl (lv_at hl 1 rfl) ?_
        refine lv_iand hx hb dX12_mayBe_34 (lv_topi (fun zi366 ea367 => ?_))
        have jn373 : ∀ (wl372 : Int64) (H : Heap) (locs : List Loc) (ls : Array Slot), lv_has ls 5 [(0, .ref qa900), (1, .int zi901), (2, .long wl372), (4, .int zi237)] → PW G cy K ln Ls A hp0 H → va_S A s.heap H locs → W p l e ({ frames := 0, cells := 0, slots := 0, locals := 0 } : Room) s m ([.ref qa900, .int zi901] : List Value).toArray below meth c H locs 0 0 Q (F0 m 45 ls []) := by
          intro wl372 H locs ls hl hw hS
          obtain ⟨zi374, ea375⟩ : ∃ z : Int32, z = zi237 + 1 := ⟨_, rfl⟩
          have bd376 : (1 : Int) ≤ zi374.toInt ∧ zi374.toInt ≤ 64 := b_iadd ea375 bd358 bc_1 (by decide) (by decide) (by decide) (by decide)
          have qe377 : zi374.toInt = (zi237 : Int32).toInt + (1 : Int32).toInt := e_iadd ea375 bd358 bc_1 (by decide) (by decide)
          have qe378 : zi374.toInt = zi237.toInt + 1 := by have ha : (1 : Int32).toInt = 1 := (by decide); rw [ha] at qe377; exact qe377
          refine lv_iinc (v := zi374) (lv' := [(4, .int zi374), (0, .ref qa900), (1, .int zi901), (2, .long wl372)]) hx hb dX12_mayBe_45 hl (k := 3) rfl ea375.symm (by decide) rfl (fun ls hl => ?_)
          refine lv_goto (tgt := 5) hx hb dX12_mayBe_48 (by decide) ?_
          exact ih316 wl372 zi374 _ _ ls (by have := hm318; have := qe378; omega) (b_wid2 bd376 (by decide) (by decide)) (lv_sub hl [1, 2, 3, 0] rfl) hw hS
        refine lv_if_ne (tgt := 45) hx hb dX12_mayBe_35 (by decide) (fun cn368 => ?_) (fun cn368 => ?_)
        · skip
          exact jn373 wl236 _ _ ls (lv_sub hl [0, 1, 2, 3] rfl) hw hS
        · skip
          have bd379 : (0 : Int) ≤ zi366.toInt ∧ zi366.toInt ≤ 0 := r_eq_x cn368 (b_all zi366) bc_0 (by decide) (by decide)
          refine lv_lload_n hx hb dX12_mayBe_38 rfl (lv_at hl 2 rfl) ?_
          refine lv_lconst (v := 1) hx hb dX12_mayBe_39 (by decide) ?_
          refine lv_iload hx hb dX12_mayBe_40 (lv_at hl 3 rfl) ?_
          refine lv_lshl hx hb dX12_mayBe_42 rfl (lv_topl (fun wl380 _ => ?_))
          refine lv_lor hx hb dX12_mayBe_43 (lv_topl (fun wl381 _ => ?_))
          refine lv_lstore_n (lv' := [(2, .long wl381), (0, .ref qa900), (1, .int zi901), (4, .int zi237)]) hx hb dX12_mayBe_44 rfl hl (by decide) rfl (fun ls hl => ?_)
          exact jn373 wl381 _ _ ls (lv_sub hl [1, 2, 0, 3] rfl) hw hS
  exact lp317 _ 0 0 _ _ ls (lp_in _) (b_wid2 bc_0 (by decide) (by decide)) (lv_sub hl [2, 3, 1, 0] rfl) hw hS

set_option maxRecDepth 100000 in
set_option maxHeartbeats 4000000 in
theorem cX12_heardAll_0 (l : Launch) (G : va_G) (cy : Nat → ClassId) (ev : Ew) (K ln : Nat → Nat) (Ls : List Nat) (hW : SW K ln Ls) (sz : Nat) (hp0 : Nat → Nat → Value) (ok0 : Ok K hp0) (qa900 : Nat) (kd900 : K qa900 = 13) : Met l yX12_heardAll (WS yX12_heardAll cX12_heardAll 3 (some .int)) { frames := 0, cells := 0, slots := 0, locals := 0 } (PB2 [.ref qa900] sz G cy ev (va_pl Ls (cellOf cy K ln hp0))) (QBi (S := (Nat → Nat → Value)) (fun (r : Int32) (u : (Nat → Nat → Value)) => Ok K u ∧ Fr [] K hp0 u) G (fun u => va_pl Ls (cellOf cy K ln u)) (va_A (va_pl Ls (cellOf cy K ln hp0)) sz)) 0 0 (va_A (va_pl Ls (cellOf cy K ln hp0)) sz) := by
  refine met_of2 (y := yX12_heardAll) (L := 3) (av := [.ref qa900]) (Qc := fun A => QBi (S := (Nat → Nat → Value)) (fun (r : Int32) (u : (Nat → Nat → Value)) => Ok K u ∧ Fr [] K hp0 u) G (fun u => va_pl Ls (cellOf cy K ln u)) A) (plainFor_of_name (by decide)) (Nat.le_of_ble_eq_true rfl) ?_
  intro p e s m below meth c hsz hx hb hr hml hown hT hlocks hin hK A hA hE hw hS ls hl
  have hw : PW G cy K ln Ls A hp0 s.heap := hw
  have hown : s.vm.findClass "LieClockModel" = some m.cls := hown
  have hl : lv_has ls 3 [(0, .ref qa900)] := hl
  obtain ⟨Q, hQ⟩ : ∃ Q : State → Prop, Q = MQ below (QBi (S := (Nat → Nat → Value)) (fun (r : Int32) (u : (Nat → Nat → Value)) => Ok K u ∧ Fr [] K hp0 u) G (fun u => va_pl Ls (cellOf cy K ln u)) A) ([.ref qa900] : List Value).toArray s 0 0 A := ⟨_, rfl⟩
  rw [← hQ]
  refine lv_iconst (v := 0) hx hb dX12_heardAll_0 (by decide) ?_
  refine lv_istore_n (lv' := [(1, .int 0), (0, .ref qa900)]) hx hb dX12_heardAll_1 rfl hl (by decide) rfl (fun ls hl => ?_)
  refine lv_iconst (v := 0) hx hb dX12_heardAll_2 (by decide) ?_
  refine lv_istore_n (lv' := [(2, .int 0), (1, .int 0), (0, .ref qa900)]) hx hb dX12_heardAll_3 rfl hl (by decide) rfl (fun ls hl => ?_)
  have lp127 : ∀ (n125 : Nat) (zi86 : Int32) (zi87 : Int32) (H : Heap) (locs : List Loc) (ls : Array Slot), 8 - zi87.toInt < (n125 : Int) → ((0 : Int) ≤ zi87.toInt ∧ zi87.toInt ≤ 8) → lv_has ls 3 [(0, .ref qa900), (1, .int zi86), (2, .int zi87)] → PW G cy K ln Ls A hp0 H → va_S A s.heap H locs → W p l e ({ frames := 0, cells := 0, slots := 0, locals := 0 } : Room) s m ([.ref qa900] : List Value).toArray below meth c H locs 0 0 Q (F0 m 4 ls []) := by
    intro n125
    induction n125 with
    | zero =>
      intro zi86 zi87 H locs ls hm128 bd88 hl hw hS
      exact absurd hm128 (by have := bd88; omega)
    | succ n125 ih126 =>
      intro zi86 zi87 H locs ls hm128 bd88 hl hw hS
      refine lv_iload_n hx hb dX12_heardAll_4 rfl (lv_at hl 2 rfl) ?_
      refine lv_bipush (v := 8) hx hb dX12_heardAll_5 (by decide) ?_
      refine lv_icmp_ge (tgt := 27) hx hb dX12_heardAll_7 (by decide) (fun cn129 => ?_) (fun cn129 => ?_)
      · skip
        have bd147 : (8 : Int) ≤ zi87.toInt ∧ zi87.toInt ≤ 8 := r_le_y cn129 bc_8 bd88 (by decide) (by decide)
        refine lv_iload_n hx hb dX12_heardAll_27 rfl (lv_at hl 1 rfl) ?_
        rw [hQ]
        exact kz_i hx hb hr hlocks hS rfl hp0 hw ⟨ok0, (Fr.rf)⟩ (Nat.le_of_ble_eq_true rfl) (Nat.le_of_ble_eq_true rfl) dX12_heardAll_28
      · skip
        have bd148 : (0 : Int) ≤ zi87.toInt ∧ zi87.toInt ≤ 7 := r_lt_x (Int32.not_le.mp cn129) bd88 bc_8 (by decide) (by decide)
        refine lv_iload_n hx hb dX12_heardAll_10 rfl (lv_at hl 1 rfl) ?_
        refine lv_aload_n hx hb dX12_heardAll_11 rfl (lv_at hl 0 rfl) ?_
        obtain ⟨qa150, eq149, kd151⟩ := rd_13050 ok0 kd900
        refine p_get (ci := 12) (v := .ref qa150) (C := RX12) (T := TX12) (N := 69) hx hb hT iw_X12 hown hK hw hW kd900 (by decide) rfl rfl 50 (by decide) eq149 (hT _ tb_1424) (fun _ h9 => h9) dX12_heardAll_12 ?_
        refine lv_iconst (v := 4) hx hb dX12_heardAll_15 (by decide) ?_
        refine lv_iload_n hx hb dX12_heardAll_16 rfl (lv_at hl 2 rfl) ?_
        refine lv_iadd hx hb dX12_heardAll_17 (lv_topi (fun zi152 ea153 => ?_))
        have bd154 : (4 : Int) ≤ zi152.toInt ∧ zi152.toInt ≤ 11 := b_iadd ea153 bc_4 bd148 (by decide) (by decide) (by decide) (by decide)
        obtain ⟨zi156, eq155⟩ := rd_93000 ok0 kd151 ((zi152 : Int32).toNatClampNeg)
        refine p_iald (v := zi156) hx hb hK hw hW kd151 (by decide) rfl (hW.len kd151 (n := 40) rfl (by decide)) (vp_b bd154 (by decide) (by decide)) eq155 dX12_heardAll_18 ?_
        refine lv_iadd hx hb dX12_heardAll_19 (lv_topi (fun zi157 ea158 => ?_))
        refine lv_istore_n (lv' := [(1, .int zi157), (0, .ref qa900), (2, .int zi87)]) hx hb dX12_heardAll_20 rfl hl (by decide) rfl (fun ls hl => ?_)
        obtain ⟨zi159, ea160⟩ : ∃ z : Int32, z = zi87 + 1 := ⟨_, rfl⟩
        have bd161 : (1 : Int) ≤ zi159.toInt ∧ zi159.toInt ≤ 8 := b_iadd ea160 bd148 bc_1 (by decide) (by decide) (by decide) (by decide)
        have qe162 : zi159.toInt = (zi87 : Int32).toInt + (1 : Int32).toInt := e_iadd ea160 bd148 bc_1 (by decide) (by decide)
        have qe163 : zi159.toInt = zi87.toInt + 1 := by have ha : (1 : Int32).toInt = 1 := (by decide); rw [ha] at qe162; exact qe162
        refine lv_iinc (v := zi159) (lv' := [(2, .int zi159), (1, .int zi157), (0, .ref qa900)]) hx hb dX12_heardAll_21 hl (k := 2) rfl ea160.symm (by decide) rfl (fun ls hl => ?_)
        refine lv_goto (tgt := 4) hx hb dX12_heardAll_24 (by decide) ?_
        exact ih126 zi157 zi159 _ _ ls (by have := hm128; have := qe163; omega) (b_wid2 bd161 (by decide) (by decide)) (lv_sub hl [2, 1, 0] rfl) hw hS
  exact lp127 _ 0 0 _ _ ls (lp_in _) (b_wid2 bc_0 (by decide) (by decide)) (lv_sub hl [2, 1, 0] rfl) hw hS

set_option maxRecDepth 100000 in
set_option maxHeartbeats 4000000 in
theorem cX12_verdictOf_0 (l : Launch) (G : va_G) (cy : Nat → ClassId) (ev : Ew) (K ln : Nat → Nat) (Ls : List Nat) (hW : SW K ln Ls) (sz : Nat) (hp0 : Nat → Nat → Value) (ok0 : Ok K hp0) (qa900 : Nat) (zi901 : Int32) (kd900 : K qa900 = 13) (bd901 : ((0 : Int) ≤ zi901.toInt ∧ zi901.toInt ≤ 7)) : Met l yX12_verdictOf (WS yX12_verdictOf cX12_verdictOf 6 (some .int)) { frames := 1, cells := 0, slots := 0, locals := 24 } (PB2 [.ref qa900, .int zi901] sz G cy ev (va_pl Ls (cellOf cy K ln hp0))) (QBi (S := (Nat → Nat → Value)) (fun (r : Int32) (u : (Nat → Nat → Value)) => Ok K u ∧ Fr [] K hp0 u ∧ ((0 : Int) ≤ r.toInt ∧ r.toInt ≤ 3)) G (fun u => va_pl Ls (cellOf cy K ln u)) (va_A (va_pl Ls (cellOf cy K ln hp0)) sz)) 0 0 (va_A (va_pl Ls (cellOf cy K ln hp0)) sz) := by
  refine met_of2 (y := yX12_verdictOf) (L := 6) (av := [.ref qa900, .int zi901]) (Qc := fun A => QBi (S := (Nat → Nat → Value)) (fun (r : Int32) (u : (Nat → Nat → Value)) => Ok K u ∧ Fr [] K hp0 u ∧ ((0 : Int) ≤ r.toInt ∧ r.toInt ≤ 3)) G (fun u => va_pl Ls (cellOf cy K ln u)) A) (plainFor_of_name (by decide)) (Nat.le_of_ble_eq_true rfl) ?_
  intro p e s m below meth c hsz hx hb hr hml hown hT hlocks hin hK A hA hE hw hS ls hl
  have hw : PW G cy K ln Ls A hp0 s.heap := hw
  have hown : s.vm.findClass "LieClockModel" = some m.cls := hown
  have hl : lv_has ls 6 [(0, .ref qa900), (1, .int zi901)] := hl
  obtain ⟨Q, hQ⟩ : ∃ Q : State → Prop, Q = MQ below (QBi (S := (Nat → Nat → Value)) (fun (r : Int32) (u : (Nat → Nat → Value)) => Ok K u ∧ Fr [] K hp0 u ∧ ((0 : Int) ≤ r.toInt ∧ r.toInt ≤ 3)) G (fun u => va_pl Ls (cellOf cy K ln u)) A) ([.ref qa900, .int zi901] : List Value).toArray s 0 0 A := ⟨_, rfl⟩
  rw [← hQ]
  refine lv_aload_n hx hb dX12_verdictOf_0 rfl (lv_at hl 0 rfl) ?_
  refine lv_aload_n hx hb dX12_verdictOf_1 rfl (lv_at hl 0 rfl) ?_
  obtain ⟨qa2, eq1, kd3⟩ := rd_13050 ok0 kd900
  refine p_get (ci := 12) (v := .ref qa2) (C := RX12) (T := TX12) (N := 69) hx hb hT iw_X12 hown hK hw hW kd900 (by decide) rfl rfl 50 (by decide) eq1 (hT _ tb_1424) (fun _ h9 => h9) dX12_verdictOf_2 ?_
  refine lv_iconst (v := 3) hx hb dX12_verdictOf_5 (by decide) ?_
  obtain ⟨zi5, eq4⟩ := rd_93000 ok0 kd3 ((3 : Int32).toNatClampNeg)
  refine p_iald (v := zi5) hx hb hK hw hW kd3 (by decide) rfl (hW.len kd3 (n := 40) rfl (by decide)) (vp_b bc_3 (by decide) (by decide)) eq4 dX12_verdictOf_6 ?_
  refine kq_l hw hS hA (va_runV (As := [.int zi5]) (rest := []) ⟨hx, hb, hml, hown, hT⟩ (cX12_mayBe_0 l G cy ev K ln Ls hW _ hp0 ok0 qa900 zi5 kd900) (cwV 1 hT (good_V tb_1784 tb_1781 tb_1783 tb_84 tb_122) rfl rfl rfl (by decide +kernel) ⟨Nat.le_of_ble_eq_true rfl, Nat.le_of_ble_eq_true rfl⟩) (pool_preV (ci := 12) hK hE hS hA hw hW kd900 (by decide) rfl) rfl rfl hl.1 rfl (lv_room (Nat.le_of_ble_eq_true rfl)) dX12_verdictOf_7 ⟨Nat.le_of_ble_eq_true rfl, Nat.le_of_ble_eq_true rfl⟩) (fun wl10 hp6 H locs hq9 hw hS => ?_)
  obtain ⟨ok7, F8⟩ := hq9
  obtain rfl : hp0 = hp6 := (Fr.nil F8).symm
  have hw : PW G cy K ln Ls A hp0 H := hw
  refine lv_lstore_n (lv' := [(2, .long wl10), (0, .ref qa900), (1, .int zi901)]) hx hb dX12_verdictOf_10 rfl hl (by decide) rfl (fun ls hl => ?_)
  refine lv_iconst (v := 0) hx hb dX12_verdictOf_11 (by decide) ?_
  refine lv_istore (lv' := [(4, .int 0), (2, .long wl10), (0, .ref qa900), (1, .int zi901)]) hx hb dX12_verdictOf_12 hl (by decide) rfl (fun ls hl => ?_)
  have lp370 : ∀ (n368 : Nat) (wl265 : Int64) (zi266 : Int32) (H : Heap) (locs : List Loc) (ls : Array Slot), 16 - zi266.toInt < (n368 : Int) → ((0 : Int) ≤ zi266.toInt ∧ zi266.toInt ≤ 16) → lv_has ls 6 [(0, .ref qa900), (1, .int zi901), (2, .long wl265), (4, .int zi266)] → PW G cy K ln Ls A hp0 H → va_S A s.heap H locs → W p l e ({ frames := 1, cells := 0, slots := 0, locals := 24 } : Room) s m ([.ref qa900, .int zi901] : List Value).toArray below meth c H locs 0 0 Q (F0 m 14 ls []) := by
    intro n368
    induction n368 with
    | zero =>
      intro wl265 zi266 H locs ls hm371 bd267 hl hw hS
      exact absurd hm371 (by have := bd267; omega)
    | succ n368 ih369 =>
      intro wl265 zi266 H locs ls hm371 bd267 hl hw hS
      refine lv_iload hx hb dX12_verdictOf_14 (lv_at hl 3 rfl) ?_
      refine lv_aload_n hx hb dX12_verdictOf_16 rfl (lv_at hl 0 rfl) ?_
      obtain ⟨qa373, eq372, kd374⟩ := rd_13028 ok0 kd900
      refine p_get (ci := 12) (v := .ref qa373) (C := RX12) (T := TX12) (N := 69) hx hb hT iw_X12 hown hK hw hW kd900 (by decide) rfl rfl 28 (by decide) eq372 (hT _ tb_1402) (fun _ h9 => h9) dX12_verdictOf_17 ?_
      refine lv_aload_n hx hb dX12_verdictOf_20 rfl (lv_at hl 0 rfl) ?_
      obtain ⟨zi376, eq375, bd377⟩ := rd_13018 ok0 kd900
      refine p_get (ci := 12) (v := .int zi376) (C := RX12) (T := TX12) (N := 69) hx hb hT iw_X12 hown hK hw hW kd900 (by decide) rfl rfl 18 (by decide) eq375 (hT _ tb_1392) (fun _ h9 => h9) dX12_verdictOf_21 ?_
      obtain ⟨zi379, eq378, bd380⟩ := rd_74000 ok0 kd374 ((zi376 : Int32).toNatClampNeg)
      refine p_iald (v := zi379) hx hb hK hw hW kd374 (by decide) rfl (hW.len kd374 (n := 2) rfl (by decide)) (vp_b bd377 (by decide) (by decide)) eq378 dX12_verdictOf_24 ?_
      refine lv_icmp_ge (tgt := 66) hx hb dX12_verdictOf_25 (by decide) (fun cn381 => ?_) (fun cn381 => ?_)
      · skip
        refine lv_lload_n hx hb dX12_verdictOf_66 rfl (lv_at hl 2 rfl) ?_
        refine lv_lconst (v := 0) hx hb dX12_verdictOf_67 (by decide) ?_
        refine W.lcmp hx hb dX12_verdictOf_68 (lv_topi (fun zi422 ea423 => ?_))
        refine lv_if_ne (tgt := 74) hx hb dX12_verdictOf_69 (by decide) (fun cn424 => ?_) (fun cn424 => ?_)
        · skip
          refine lv_lload_n hx hb dX12_verdictOf_74 rfl (lv_at hl 2 rfl) ?_
          refine lv_aload_n hx hb dX12_verdictOf_75 rfl (lv_at hl 0 rfl) ?_
          obtain ⟨qa426, eq425, kd427⟩ := rd_13034 ok0 kd900
          refine p_get (ci := 12) (v := .ref qa426) (C := RX12) (T := TX12) (N := 69) hx hb hT iw_X12 hown hK hw hW kd900 (by decide) rfl rfl 34 (by decide) eq425 (hT _ tb_1408) (fun _ h9 => h9) dX12_verdictOf_76 ?_
          refine lv_bipush (v := 8) hx hb dX12_verdictOf_79 (by decide) ?_
          refine lv_aload_n hx hb dX12_verdictOf_81 rfl (lv_at hl 0 rfl) ?_
          refine p_get (ci := 12) (v := .int zi376) (C := RX12) (T := TX12) (N := 69) hx hb hT iw_X12 hown hK hw hW kd900 (by decide) rfl rfl 18 (by decide) eq375 (hT _ tb_1392) (fun _ h9 => h9) dX12_verdictOf_82 ?_
          refine lv_imul hx hb dX12_verdictOf_85 (lv_topi (fun zi428 ea429 => ?_))
          have bd430 : (0 : Int) ≤ zi428.toInt ∧ zi428.toInt ≤ 8 := b_imul ea429 bc_8 bd377 (by decide) (by decide) (by decide) (by decide) (by decide)
          refine lv_iload_n hx hb dX12_verdictOf_86 rfl (lv_at hl 1 rfl) ?_
          refine lv_iadd hx hb dX12_verdictOf_87 (lv_topi (fun zi431 ea432 => ?_))
          have bd433 : (0 : Int) ≤ zi431.toInt ∧ zi431.toInt ≤ 15 := b_iadd ea432 bd430 bd901 (by decide) (by decide) (by decide) (by decide)
          obtain ⟨wl435, eq434⟩ := rd_80000 ok0 kd427 ((zi431 : Int32).toNatClampNeg)
          refine p_lald (v := wl435) hx hb hK hw hW kd427 (by decide) rfl (hW.len kd427 (n := 16) rfl (by decide)) (vp_b bd433 (by decide) (by decide)) eq434 dX12_verdictOf_88 ?_
          refine lv_land hx hb dX12_verdictOf_89 (lv_topl (fun wl436 _ => ?_))
          refine lv_lstore (lv' := [(4, .long wl436), (0, .ref qa900), (1, .int zi901), (2, .long wl265)]) hx hb dX12_verdictOf_90 hl (by decide) rfl (fun ls hl => ?_)
          refine lv_lload hx hb dX12_verdictOf_92 (lv_at hl 0 rfl) ?_
          refine lv_lload_n hx hb dX12_verdictOf_94 rfl (lv_at hl 3 rfl) ?_
          refine W.lcmp hx hb dX12_verdictOf_95 (lv_topi (fun zi437 ea438 => ?_))
          refine lv_if_ne (tgt := 103) hx hb dX12_verdictOf_96 (by decide) (fun cn439 => ?_) (fun cn439 => ?_)
          · skip
            refine lv_lload hx hb dX12_verdictOf_103 (lv_at hl 0 rfl) ?_
            refine lv_lconst (v := 0) hx hb dX12_verdictOf_105 (by decide) ?_
            refine W.lcmp hx hb dX12_verdictOf_106 (lv_topi (fun zi440 ea441 => ?_))
            refine lv_if_ne (tgt := 114) hx hb dX12_verdictOf_107 (by decide) (fun cn442 => ?_) (fun cn442 => ?_)
            · skip
              refine lv_iconst (v := 2) hx hb dX12_verdictOf_114 (by decide) ?_
              rw [hQ]
              exact kz_i hx hb hr hlocks hS rfl hp0 hw ⟨ok0, (Fr.rf), (b_wid2 bc_2 (by decide) (by decide))⟩ (Nat.le_of_ble_eq_true rfl) (Nat.le_of_ble_eq_true rfl) dX12_verdictOf_115
            · skip
              have bd443 : (0 : Int) ≤ zi440.toInt ∧ zi440.toInt ≤ 0 := r_eq_x cn442 (b_all zi440) bc_0 (by decide) (by decide)
              refine lv_iconst (v := 0) hx hb dX12_verdictOf_110 (by decide) ?_
              refine lv_goto (tgt := 115) hx hb dX12_verdictOf_111 (by decide) ?_
              rw [hQ]
              exact kz_i hx hb hr hlocks hS rfl hp0 hw ⟨ok0, (Fr.rf), (b_wid2 bc_0 (by decide) (by decide))⟩ (Nat.le_of_ble_eq_true rfl) (Nat.le_of_ble_eq_true rfl) dX12_verdictOf_115
          · skip
            have bd444 : (0 : Int) ≤ zi437.toInt ∧ zi437.toInt ≤ 0 := r_eq_x cn439 (b_all zi437) bc_0 (by decide) (by decide)
            refine lv_iconst (v := 1) hx hb dX12_verdictOf_99 (by decide) ?_
            refine lv_goto (tgt := 115) hx hb dX12_verdictOf_100 (by decide) ?_
            rw [hQ]
            exact kz_i hx hb hr hlocks hS rfl hp0 hw ⟨ok0, (Fr.rf), (b_wid2 bc_1 (by decide) (by decide))⟩ (Nat.le_of_ble_eq_true rfl) (Nat.le_of_ble_eq_true rfl) dX12_verdictOf_115
        · skip
          have bd445 : (0 : Int) ≤ zi422.toInt ∧ zi422.toInt ≤ 0 := r_eq_x cn424 (b_all zi422) bc_0 (by decide) (by decide)
          refine lv_iconst (v := 3) hx hb dX12_verdictOf_72 (by decide) ?_
          rw [hQ]
          exact kz_i hx hb hr hlocks hS rfl hp0 hw ⟨ok0, (Fr.rf), (b_wid2 bc_3 (by decide) (by decide))⟩ (Nat.le_of_ble_eq_true rfl) (Nat.le_of_ble_eq_true rfl) dX12_verdictOf_73
      · skip
        have bd446 : (0 : Int) ≤ zi266.toInt ∧ zi266.toInt ≤ 15 := r_lt_x (Int32.not_le.mp cn381) bd267 bd380 (by decide) (by decide)
        have bd447 : (1 : Int) ≤ zi379.toInt ∧ zi379.toInt ≤ 16 := r_lt_y (Int32.not_le.mp cn381) bd267 bd380 (by decide) (by decide)
        refine lv_aload_n hx hb dX12_verdictOf_28 rfl (lv_at hl 0 rfl) ?_
        refine p_get (ci := 12) (v := .ref qa2) (C := RX12) (T := TX12) (N := 69) hx hb hT iw_X12 hown hK hw hW kd900 (by decide) rfl rfl 50 (by decide) eq1 (hT _ tb_1424) (fun _ h9 => h9) dX12_verdictOf_29 ?_
        refine lv_iconst (v := 1) hx hb dX12_verdictOf_32 (by decide) ?_
        obtain ⟨zi449, eq448⟩ := rd_93000 ok0 kd3 ((1 : Int32).toNatClampNeg)
        refine p_iald (v := zi449) hx hb hK hw hW kd3 (by decide) rfl (hW.len kd3 (n := 40) rfl (by decide)) (vp_b bc_1 (by decide) (by decide)) eq448 dX12_verdictOf_33 ?_
        refine lv_aload_n hx hb dX12_verdictOf_34 rfl (lv_at hl 0 rfl) ?_
        refine p_get (ci := 12) (v := .ref qa2) (C := RX12) (T := TX12) (N := 69) hx hb hT iw_X12 hown hK hw hW kd900 (by decide) rfl rfl 50 (by decide) eq1 (hT _ tb_1424) (fun _ h9 => h9) dX12_verdictOf_35 ?_
        refine lv_iconst (v := 2) hx hb dX12_verdictOf_38 (by decide) ?_
        obtain ⟨zi451, eq450⟩ := rd_93000 ok0 kd3 ((2 : Int32).toNatClampNeg)
        refine p_iald (v := zi451) hx hb hK hw hW kd3 (by decide) rfl (hW.len kd3 (n := 40) rfl (by decide)) (vp_b bc_2 (by decide) (by decide)) eq450 dX12_verdictOf_39 ?_
        refine lv_iconst (v := (-1)) hx hb dX12_verdictOf_40 (by decide) ?_
        refine lv_ixor hx hb dX12_verdictOf_41 (lv_topi (fun zi452 ea453 => ?_))
        refine lv_iand hx hb dX12_verdictOf_42 (lv_topi (fun zi454 ea455 => ?_))
        refine lv_iconst (v := 1) hx hb dX12_verdictOf_43 (by decide) ?_
        refine lv_iload hx hb dX12_verdictOf_44 (lv_at hl 3 rfl) ?_
        refine lv_ishl hx hb dX12_verdictOf_46 (lv_topi (fun zi456 ea457 => ?_))
        have bd458 : (1 : Int) ≤ zi456.toInt ∧ zi456.toInt ≤ 32768 := b_shl1 15 ea457 bd446 (by decide) (by decide) (by decide) (by decide) (by decide)
        refine lv_iand hx hb dX12_verdictOf_47 (lv_topi (fun zi459 ea460 => ?_))
        have bd461 : (0 : Int) ≤ zi459.toInt ∧ zi459.toInt ≤ 32768 := b_and_r ea460 bd458 (by decide) (by decide) (by decide)
        have jn472 : ∀ (wl471 : Int64) (H : Heap) (locs : List Loc) (ls : Array Slot), lv_has ls 6 [(0, .ref qa900), (1, .int zi901), (2, .long wl471), (4, .int zi266)] → PW G cy K ln Ls A hp0 H → va_S A s.heap H locs → W p l e ({ frames := 1, cells := 0, slots := 0, locals := 24 } : Room) s m ([.ref qa900, .int zi901] : List Value).toArray below meth c H locs 0 0 Q (F0 m 60 ls []) := by
          intro wl471 H locs ls hl hw hS
          obtain ⟨zi473, ea474⟩ : ∃ z : Int32, z = zi266 + 1 := ⟨_, rfl⟩
          have bd475 : (1 : Int) ≤ zi473.toInt ∧ zi473.toInt ≤ 16 := b_iadd ea474 bd446 bc_1 (by decide) (by decide) (by decide) (by decide)
          have qe476 : zi473.toInt = (zi266 : Int32).toInt + (1 : Int32).toInt := e_iadd ea474 bd446 bc_1 (by decide) (by decide)
          have qe477 : zi473.toInt = zi266.toInt + 1 := by have ha : (1 : Int32).toInt = 1 := (by decide); rw [ha] at qe476; exact qe476
          refine lv_iinc (v := zi473) (lv' := [(4, .int zi473), (0, .ref qa900), (1, .int zi901), (2, .long wl471)]) hx hb dX12_verdictOf_60 hl (k := 3) rfl ea474.symm (by decide) rfl (fun ls hl => ?_)
          refine lv_goto (tgt := 14) hx hb dX12_verdictOf_63 (by decide) ?_
          exact ih369 wl471 zi473 _ _ ls (by have := hm371; have := qe477; omega) (b_wid2 bd475 (by decide) (by decide)) (lv_sub hl [1, 2, 3, 0] rfl) hw hS
        refine lv_if_eq (tgt := 60) hx hb dX12_verdictOf_48 (by decide) (fun cn462 => ?_) (fun cn462 => ?_)
        · skip
          have bd478 : (0 : Int) ≤ zi459.toInt ∧ zi459.toInt ≤ 0 := r_eq_x cn462 bd461 bc_0 (by decide) (by decide)
          exact jn472 wl265 _ _ ls (lv_sub hl [0, 1, 2, 3] rfl) hw hS
        · skip
          have bd479 : (1 : Int) ≤ zi459.toInt ∧ zi459.toInt ≤ 32768 := r_ne_lo cn462 bd461 (toi bc_0) (by decide) (by decide)
          refine lv_lload_n hx hb dX12_verdictOf_51 rfl (lv_at hl 2 rfl) ?_
          refine lv_aload_n hx hb dX12_verdictOf_52 rfl (lv_at hl 0 rfl) ?_
          refine lv_iload hx hb dX12_verdictOf_53 (lv_at hl 3 rfl) ?_
          refine kq_l hw hS hA (va_runV (As := [.int zi266]) (rest := [.long wl265]) ⟨hx, hb, hml, hown, hT⟩ (cX12_holdsOf_0 l G cy ev K ln Ls hW _ hp0 ok0 qa900 zi266 kd900 (b_wid2 bd446 (by decide) (by decide))) (cwV 1 hT (good_V tb_1750 tb_1747 tb_1749 tb_78 tb_122) rfl rfl rfl (by decide +kernel) ⟨Nat.le_of_ble_eq_true rfl, Nat.le_of_ble_eq_true rfl⟩) (pool_preV (ci := 12) hK hE hS hA hw hW kd900 (by decide) rfl) rfl rfl hl.1 rfl (lv_room (Nat.le_of_ble_eq_true rfl)) dX12_verdictOf_55 ⟨Nat.le_of_ble_eq_true rfl, Nat.le_of_ble_eq_true rfl⟩) (fun wl484 hp480 H locs hq483 hw hS => ?_)
          obtain ⟨ok481, F482⟩ := hq483
          obtain rfl : hp0 = hp480 := (Fr.nil F482).symm
          have hw : PW G cy K ln Ls A hp0 H := hw
          refine lv_land hx hb dX12_verdictOf_58 (lv_topl (fun wl485 _ => ?_))
          refine lv_lstore_n (lv' := [(2, .long wl485), (0, .ref qa900), (1, .int zi901), (4, .int zi266)]) hx hb dX12_verdictOf_59 rfl hl (by decide) rfl (fun ls hl => ?_)
          exact jn472 wl485 _ _ ls (lv_sub hl [1, 2, 0, 3] rfl) hw hS
  exact lp370 _ wl10 0 _ _ ls (lp_in _) (b_wid2 bc_0 (by decide) (by decide)) (lv_sub hl [2, 3, 1, 0] rfl) hw hS

set_option maxRecDepth 100000 in
set_option maxHeartbeats 4000000 in
theorem cX12_forward_0 (l : Launch) (G : va_G) (cy : Nat → ClassId) (ev : Ew) (K ln : Nat → Nat) (Ls : List Nat) (hW : SW K ln Ls) (sz : Nat) (hp0 : Nat → Nat → Value) (ok0 : Ok K hp0) (qa900 : Nat) (zi901 : Int32) (kd900 : K qa900 = 13) : Met l yX12_forward (WS yX12_forward cX12_forward 4 none) { frames := 2, cells := 0, slots := 0, locals := 49 } (PB2 [.ref qa900, .int zi901] sz G cy ev (va_pl Ls (cellOf cy K ln hp0))) (QBv (S := (Nat → Nat → Value)) (fun u : (Nat → Nat → Value) => Ok K u ∧ Fr [13051, 93000] K hp0 u) G (fun u => va_pl Ls (cellOf cy K ln u)) (va_A (va_pl Ls (cellOf cy K ln hp0)) sz)) 0 0 (va_A (va_pl Ls (cellOf cy K ln hp0)) sz) := by
  refine met_of2 (y := yX12_forward) (L := 4) (av := [.ref qa900, .int zi901]) (Qc := fun A => QBv (S := (Nat → Nat → Value)) (fun u : (Nat → Nat → Value) => Ok K u ∧ Fr [13051, 93000] K hp0 u) G (fun u => va_pl Ls (cellOf cy K ln u)) A) (plainFor_of_name (by decide)) (Nat.le_of_ble_eq_true rfl) ?_
  intro p e s m below meth c hsz hx hb hr hml hown hT hlocks hin hK A hA hE hw hS ls hl
  have hw : PW G cy K ln Ls A hp0 s.heap := hw
  have hown : s.vm.findClass "LieClockModel" = some m.cls := hown
  have hl : lv_has ls 4 [(0, .ref qa900), (1, .int zi901)] := hl
  obtain ⟨Q, hQ⟩ : ∃ Q : State → Prop, Q = MQ below (QBv (S := (Nat → Nat → Value)) (fun u : (Nat → Nat → Value) => Ok K u ∧ Fr [13051, 93000] K hp0 u) G (fun u => va_pl Ls (cellOf cy K ln u)) A) ([.ref qa900, .int zi901] : List Value).toArray s 0 0 A := ⟨_, rfl⟩
  rw [← hQ]
  refine lv_iconst (v := 0) hx hb dX12_forward_0 (by decide) ?_
  refine lv_istore_n (lv' := [(2, .int 0), (0, .ref qa900), (1, .int zi901)]) hx hb dX12_forward_1 rfl hl (by decide) rfl (fun ls hl => ?_)
  have jn11021 : ∀ (hp11018 : Nat → Nat → Value)  (H : Heap) (locs : List Loc) (ls : Array Slot), Ok K hp11018 → Fr [13051, 93000] K hp0 hp11018 → lv_has ls 4 [] → PW G cy K ln Ls A hp11018 H → va_S A s.heap H locs → W p l e ({ frames := 2, cells := 0, slots := 0, locals := 49 } : Room) s m ([.ref qa900, .int zi901] : List Value).toArray below meth c H locs 0 0 Q (F0 m 126 ls []) := by
    intro hp11018 H locs ls ok11020 F11019 hl hw hS
    rw [hQ]
    exact kz_v hx hb hr hlocks hS hp11018 hw ⟨ok11020, (Fr.tr (Fr.rf) F11019 (by decide))⟩ (Nat.le_of_ble_eq_true rfl) (Nat.le_of_ble_eq_true rfl) dX12_forward_126
  have lp11024 : ∀ (n11022 : Nat) (hp9448 : Nat → Nat → Value) (zi9447 : Int32) (H : Heap) (locs : List Loc) (ls : Array Slot), 2147483647 - zi9447.toInt < (n11022 : Int) → Ok K hp9448 → Fr [13051, 93000] K hp0 hp9448 → ((0 : Int) ≤ zi9447.toInt ∧ zi9447.toInt ≤ 2147483647) → lv_has ls 4 [(0, .ref qa900), (1, .int zi901), (2, .int zi9447)] → PW G cy K ln Ls A hp9448 H → va_S A s.heap H locs → W p l e ({ frames := 2, cells := 0, slots := 0, locals := 49 } : Room) s m ([.ref qa900, .int zi901] : List Value).toArray below meth c H locs 0 0 Q (F0 m 2 ls []) := by
    intro n11022
    induction n11022 with
    | zero =>
      intro hp9448 zi9447 H locs ls hm11025 ok9450 F9449 bd9451 hl hw hS
      exact absurd hm11025 (by have := bd9451; omega)
    | succ n11022 ih11023 =>
      intro hp9448 zi9447 H locs ls hm11025 ok9450 F9449 bd9451 hl hw hS
      refine lv_iload_n hx hb dX12_forward_2 rfl (lv_at hl 2 rfl) ?_
      refine lv_iload_n hx hb dX12_forward_3 rfl (lv_at hl 1 rfl) ?_
      refine lv_icmp_ge (tgt := 126) hx hb dX12_forward_4 (by decide) (fun cn11026 => ?_) (fun cn11026 => ?_)
      · skip
        exact jn11021 hp9448 _ _ ls ok9450 (Fr.tr (Fr.rf) F9449 (by decide)) (lv_sub hl [] rfl) hw hS
      · skip
        have bd11027 : (0 : Int) ≤ zi9447.toInt ∧ zi9447.toInt ≤ 2147483646 := r_lt_x (Int32.not_le.mp cn11026) bd9451 (b_all zi901) (by decide) (by decide)
        have bd11028 : (1 : Int) ≤ zi901.toInt ∧ zi901.toInt ≤ 2147483647 := r_lt_y (Int32.not_le.mp cn11026) bd9451 (b_all zi901) (by decide) (by decide)
        refine lv_aload_n hx hb dX12_forward_7 rfl (lv_at hl 0 rfl) ?_
        obtain ⟨qa11030, eq11029, kd11031⟩ := rd_13050 ok9450 kd900
        refine p_get (ci := 12) (v := .ref qa11030) (C := RX12) (T := TX12) (N := 69) hx hb hT iw_X12 hown hK hw hW kd900 (by decide) rfl rfl 50 (by decide) eq11029 (hT _ tb_1424) (fun _ h9 => h9) dX12_forward_8 ?_
        refine lv_iconst (v := 0) hx hb dX12_forward_11 (by decide) ?_
        obtain ⟨zi11033, eq11032⟩ := rd_93000 ok9450 kd11031 ((0 : Int32).toNatClampNeg)
        refine p_iald (v := zi11033) hx hb hK hw hW kd11031 (by decide) rfl (hW.len kd11031 (n := 40) rfl (by decide)) (vp_b bc_0 (by decide) (by decide)) eq11032 dX12_forward_12 ?_
        refine lv_ldcw (v := 100000) hx hb hown (hT _ tb_1814) dX12_forward_13 ?_
        refine lv_icmp_ge (tgt := 126) hx hb dX12_forward_16 (by decide) (fun cn11034 => ?_) (fun cn11034 => ?_)
        · skip
          have bd11035 : (100000 : Int) ≤ zi11033.toInt ∧ zi11033.toInt ≤ 2147483647 := r_le_y cn11034 bc_100000 (b_all zi11033) (by decide) (by decide)
          exact jn11021 hp9448 _ _ ls ok9450 (Fr.tr (Fr.rf) F9449 (by decide)) (lv_sub hl [] rfl) hw hS
        · skip
          have bd11036 : (-2147483648 : Int) ≤ zi11033.toInt ∧ zi11033.toInt ≤ 99999 := r_lt_x (Int32.not_le.mp cn11034) (b_all zi11033) bc_100000 (by decide) (by decide)
          refine lv_aload_n hx hb dX12_forward_19 rfl (lv_at hl 0 rfl) ?_
          refine p_get (ci := 12) (v := .ref qa11030) (C := RX12) (T := TX12) (N := 69) hx hb hT iw_X12 hown hK hw hW kd900 (by decide) rfl rfl 50 (by decide) eq11029 (hT _ tb_1424) (fun _ h9 => h9) dX12_forward_20 ?_
          refine lv_iconst (v := 0) hx hb dX12_forward_23 (by decide) ?_
          refine lv_dup2_11 hx hb dX12_forward_24 rfl rfl ?_
          refine p_iald (v := zi11033) hx hb hK hw hW kd11031 (by decide) rfl (hW.len kd11031 (n := 40) rfl (by decide)) (vp_b bc_0 (by decide) (by decide)) eq11032 dX12_forward_25 ?_
          refine lv_iconst (v := 1) hx hb dX12_forward_26 (by decide) ?_
          refine lv_iadd hx hb dX12_forward_27 (lv_topi (fun zi11037 ea11038 => ?_))
          have bd11039 : (-2147483647 : Int) ≤ zi11037.toInt ∧ zi11037.toInt ≤ 100000 := b_iadd ea11038 bd11036 bc_1 (by decide) (by decide) (by decide) (by decide)
          have qe11040 : zi11037.toInt = (zi11033 : Int32).toInt + (1 : Int32).toInt := e_iadd ea11038 bd11036 bc_1 (by decide) (by decide)
          have qe11041 : zi11037.toInt = zi11033.toInt + 1 := by have ha : (1 : Int32).toInt = 1 := (by decide); rw [ha] at qe11040; exact qe11040
          refine p_iast (x := zi11037) hx hb hK hw hS hW kd11031 (by decide) rfl (hW.len kd11031 (n := 40) rfl (by decide)) (vp_b bc_0 (by decide) (by decide)) dX12_forward_28 (fun hp11042 eh11043 H locs hw hS => ?_)
          have ok11044 := wr_93000 ok9450 kd11031 eh11043
          refine lv_aload_n hx hb dX12_forward_29 rfl (lv_at hl 0 rfl) ?_
          have eq11045 : hp11042 qa900 50 = .ref qa11030 := Eq.trans (up_at eh11043 (Or.inl (kd_ne kd900 kd11031 (by decide)))) eq11029
          refine p_get (ci := 12) (v := .ref qa11030) (C := RX12) (T := TX12) (N := 69) hx hb hT iw_X12 hown hK hw hW kd900 (by decide) rfl rfl 50 (by decide) eq11045 (hT _ tb_1424) (fun _ h9 => h9) dX12_forward_30 ?_
          refine lv_iconst (v := 0) hx hb dX12_forward_33 (by decide) ?_
          refine p_iald (v := zi11037) hx hb hK hw hW kd11031 (by decide) rfl (hW.len kd11031 (n := 40) rfl (by decide)) (vp_b bc_0 (by decide) (by decide)) (hp_self eh11043) dX12_forward_34 ?_
          refine lv_aload_n hx hb dX12_forward_35 rfl (lv_at hl 0 rfl) ?_
          obtain ⟨zi11047, eq11046⟩ := rd_13052 ok11044 kd900
          refine p_get (ci := 12) (v := .int zi11047) (C := RX12) (T := TX12) (N := 69) hx hb hT iw_X12 hown hK hw hW kd900 (by decide) rfl rfl 52 (by decide) eq11046 (hT _ tb_1426) (fun _ h9 => h9) dX12_forward_36 ?_
          have jn11056 : ∀ (hp11053 : Nat → Nat → Value)  (H : Heap) (locs : List Loc) (ls : Array Slot), Ok K hp11053 → Fr [13051] K hp11042 hp11053 → lv_has ls 4 [(0, .ref qa900), (1, .int zi901), (2, .int zi9447)] → PW G cy K ln Ls A hp11053 H → va_S A s.heap H locs → W p l e ({ frames := 2, cells := 0, slots := 0, locals := 49 } : Room) s m ([.ref qa900, .int zi901] : List Value).toArray below meth c H locs 0 0 Q (F0 m 47 ls []) := by
            intro hp11053 H locs ls ok11055 F11054 hl hw hS
            refine lv_iconst (v := 0) hx hb dX12_forward_47 (by decide) ?_
            refine lv_istore_n (lv' := [(3, .int 0), (0, .ref qa900), (1, .int zi901), (2, .int zi9447)]) hx hb dX12_forward_48 rfl hl (by decide) rfl (fun ls hl => ?_)
            have lp11644 : ∀ (n11642 : Nat) (hp11474 : Nat → Nat → Value) (zi11473 : Int32) (H : Heap) (locs : List Loc) (ls : Array Slot), 8 - zi11473.toInt < (n11642 : Int) → Ok K hp11474 → Fr [93000] K hp11053 hp11474 → ((0 : Int) ≤ zi11473.toInt ∧ zi11473.toInt ≤ 8) → lv_has ls 4 [(0, .ref qa900), (1, .int zi901), (2, .int zi9447), (3, .int zi11473)] → PW G cy K ln Ls A hp11474 H → va_S A s.heap H locs → W p l e ({ frames := 2, cells := 0, slots := 0, locals := 49 } : Room) s m ([.ref qa900, .int zi901] : List Value).toArray below meth c H locs 0 0 Q (F0 m 49 ls []) := by
              intro n11642
              induction n11642 with
              | zero =>
                intro hp11474 zi11473 H locs ls hm11645 ok11476 F11475 bd11477 hl hw hS
                exact absurd hm11645 (by have := bd11477; omega)
              | succ n11642 ih11643 =>
                intro hp11474 zi11473 H locs ls hm11645 ok11476 F11475 bd11477 hl hw hS
                refine lv_iload_n hx hb dX12_forward_49 rfl (lv_at hl 3 rfl) ?_
                refine lv_aload_n hx hb dX12_forward_50 rfl (lv_at hl 0 rfl) ?_
                obtain ⟨qa11647, eq11646, kd11648⟩ := rd_13032 ok11476 kd900
                refine p_get (ci := 12) (v := .ref qa11647) (C := RX12) (T := TX12) (N := 69) hx hb hT iw_X12 hown hK hw hW kd900 (by decide) rfl rfl 32 (by decide) eq11646 (hT _ tb_1406) (fun _ h9 => h9) dX12_forward_51 ?_
                refine lv_aload_n hx hb dX12_forward_54 rfl (lv_at hl 0 rfl) ?_
                obtain ⟨zi11650, eq11649, bd11651⟩ := rd_13018 ok11476 kd900
                refine p_get (ci := 12) (v := .int zi11650) (C := RX12) (T := TX12) (N := 69) hx hb hT iw_X12 hown hK hw hW kd900 (by decide) rfl rfl 18 (by decide) eq11649 (hT _ tb_1392) (fun _ h9 => h9) dX12_forward_55 ?_
                obtain ⟨zi11653, eq11652, bd11654⟩ := rd_78000 ok11476 kd11648 ((zi11650 : Int32).toNatClampNeg)
                refine p_iald (v := zi11653) hx hb hK hw hW kd11648 (by decide) rfl (hW.len kd11648 (n := 2) rfl (by decide)) (vp_b bd11651 (by decide) (by decide)) eq11652 dX12_forward_58 ?_
                refine lv_icmp_ge (tgt := 120) hx hb dX12_forward_59 (by decide) (fun cn11655 => ?_) (fun cn11655 => ?_)
                · skip
                  obtain ⟨zi11728, ea11729⟩ : ∃ z : Int32, z = zi9447 + 1 := ⟨_, rfl⟩
                  have bd11730 : (1 : Int) ≤ zi11728.toInt ∧ zi11728.toInt ≤ 2147483647 := b_iadd ea11729 bd11027 bc_1 (by decide) (by decide) (by decide) (by decide)
                  have qe11731 : zi11728.toInt = (zi9447 : Int32).toInt + (1 : Int32).toInt := e_iadd ea11729 bd11027 bc_1 (by decide) (by decide)
                  have qe11732 : zi11728.toInt = zi9447.toInt + 1 := by have ha : (1 : Int32).toInt = 1 := (by decide); rw [ha] at qe11731; exact qe11731
                  refine lv_iinc (v := zi11728) (lv' := [(2, .int zi11728), (0, .ref qa900), (1, .int zi901), (3, .int zi11473)]) hx hb dX12_forward_120 hl (k := 2) rfl ea11729.symm (by decide) rfl (fun ls hl => ?_)
                  refine lv_goto (tgt := 2) hx hb dX12_forward_123 (by decide) ?_
                  exact ih11023 hp11474 zi11728 _ _ ls (by have := hm11025; have := qe11732; omega) ok11476 (Fr.tr (Fr.tr (Fr.put (cq := 93000) (Fr.tr (Fr.rf) F9449 (by decide)) eh11043 kd11031 (cd_a (by decide)) (by decide)) F11054 (by decide)) F11475 (by decide)) (b_wid2 bd11730 (by decide) (by decide)) (lv_sub hl [1, 2, 0] rfl) hw hS
                · skip
                  have bd11733 : (0 : Int) ≤ zi11473.toInt ∧ zi11473.toInt ≤ 7 := r_lt_x (Int32.not_le.mp cn11655) bd11477 bd11654 (by decide) (by decide)
                  have bd11734 : (1 : Int) ≤ zi11653.toInt ∧ zi11653.toInt ≤ 8 := r_lt_y (Int32.not_le.mp cn11655) bd11477 bd11654 (by decide) (by decide)
                  refine lv_aload_n hx hb dX12_forward_62 rfl (lv_at hl 0 rfl) ?_
                  obtain ⟨qa11736, eq11735, kd11737⟩ := rd_13033 ok11476 kd900
                  refine p_get (ci := 12) (v := .ref qa11736) (C := RX12) (T := TX12) (N := 69) hx hb hT iw_X12 hown hK hw hW kd900 (by decide) rfl rfl 33 (by decide) eq11735 (hT _ tb_1407) (fun _ h9 => h9) dX12_forward_63 ?_
                  refine lv_bipush (v := 8) hx hb dX12_forward_66 (by decide) ?_
                  refine lv_aload_n hx hb dX12_forward_68 rfl (lv_at hl 0 rfl) ?_
                  refine p_get (ci := 12) (v := .int zi11650) (C := RX12) (T := TX12) (N := 69) hx hb hT iw_X12 hown hK hw hW kd900 (by decide) rfl rfl 18 (by decide) eq11649 (hT _ tb_1392) (fun _ h9 => h9) dX12_forward_69 ?_
                  refine lv_imul hx hb dX12_forward_72 (lv_topi (fun zi11738 ea11739 => ?_))
                  have bd11740 : (0 : Int) ≤ zi11738.toInt ∧ zi11738.toInt ≤ 8 := b_imul ea11739 bc_8 bd11651 (by decide) (by decide) (by decide) (by decide) (by decide)
                  refine lv_iload_n hx hb dX12_forward_73 rfl (lv_at hl 3 rfl) ?_
                  refine lv_iadd hx hb dX12_forward_74 (lv_topi (fun zi11741 ea11742 => ?_))
                  have bd11743 : (0 : Int) ≤ zi11741.toInt ∧ zi11741.toInt ≤ 15 := b_iadd ea11742 bd11740 bd11733 (by decide) (by decide) (by decide) (by decide)
                  obtain ⟨zi11745, eq11744⟩ := rd_79000 ok11476 kd11737 ((zi11741 : Int32).toNatClampNeg)
                  refine p_iald (v := zi11745) hx hb hK hw hW kd11737 (by decide) rfl (hW.len kd11737 (n := 16) rfl (by decide)) (vp_b bd11743 (by decide) (by decide)) eq11744 dX12_forward_75 ?_
                  refine lv_aload_n hx hb dX12_forward_76 rfl (lv_at hl 0 rfl) ?_
                  have eq11746 : hp11474 qa900 50 = .ref qa11030 := Eq.trans (Fr.at (cq := 13050) F11475 kd900 (cd_o (by decide)) (by decide)) (Eq.trans (Fr.at (cq := 13050) F11054 kd900 (cd_o (by decide)) (by decide)) eq11045)
                  refine p_get (ci := 12) (v := .ref qa11030) (C := RX12) (T := TX12) (N := 69) hx hb hT iw_X12 hown hK hw hW kd900 (by decide) rfl rfl 50 (by decide) eq11746 (hT _ tb_1424) (fun _ h9 => h9) dX12_forward_77 ?_
                  refine lv_iconst (v := 0) hx hb dX12_forward_80 (by decide) ?_
                  obtain ⟨zi11748, eq11747⟩ := rd_93000 ok11476 kd11031 ((0 : Int32).toNatClampNeg)
                  refine p_iald (v := zi11748) hx hb hK hw hW kd11031 (by decide) rfl (hW.len kd11031 (n := 40) rfl (by decide)) (vp_b bc_0 (by decide) (by decide)) eq11747 dX12_forward_81 ?_
                  have jn11776 : ∀ (hp11773 : Nat → Nat → Value)  (H : Heap) (locs : List Loc) (ls : Array Slot), Ok K hp11773 → Fr [93000] K hp11474 hp11773 → lv_has ls 4 [(0, .ref qa900), (1, .int zi901), (2, .int zi9447), (3, .int zi11473)] → PW G cy K ln Ls A hp11773 H → va_S A s.heap H locs → W p l e ({ frames := 2, cells := 0, slots := 0, locals := 49 } : Room) s m ([.ref qa900, .int zi901] : List Value).toArray below meth c H locs 0 0 Q (F0 m 114 ls []) := by
                    intro hp11773 H locs ls ok11775 F11774 hl hw hS
                    obtain ⟨zi11777, ea11778⟩ : ∃ z : Int32, z = zi11473 + 1 := ⟨_, rfl⟩
                    have bd11779 : (1 : Int) ≤ zi11777.toInt ∧ zi11777.toInt ≤ 8 := b_iadd ea11778 bd11733 bc_1 (by decide) (by decide) (by decide) (by decide)
                    have qe11780 : zi11777.toInt = (zi11473 : Int32).toInt + (1 : Int32).toInt := e_iadd ea11778 bd11733 bc_1 (by decide) (by decide)
                    have qe11781 : zi11777.toInt = zi11473.toInt + 1 := by have ha : (1 : Int32).toInt = 1 := (by decide); rw [ha] at qe11780; exact qe11780
                    refine lv_iinc (v := zi11777) (lv' := [(3, .int zi11777), (0, .ref qa900), (1, .int zi901), (2, .int zi9447)]) hx hb dX12_forward_114 hl (k := 3) rfl ea11778.symm (by decide) rfl (fun ls hl => ?_)
                    refine lv_goto (tgt := 49) hx hb dX12_forward_117 (by decide) ?_
                    exact ih11643 hp11773 zi11777 _ _ ls (by have := hm11645; have := qe11781; omega) ok11775 (Fr.tr (Fr.tr (Fr.rf) F11475 (by decide)) F11774 (by decide)) (b_wid2 bd11779 (by decide) (by decide)) (lv_sub hl [1, 2, 3, 0] rfl) hw hS
                  refine lv_icmp_eq (tgt := 88) hx hb dX12_forward_82 (by decide) (fun cn11749 => ?_) (fun cn11749 => ?_)
                  · skip
                    refine lv_aload_n hx hb dX12_forward_88 rfl (lv_at hl 0 rfl) ?_
                    refine p_get (ci := 12) (v := .ref qa11030) (C := RX12) (T := TX12) (N := 69) hx hb hT iw_X12 hown hK hw hW kd900 (by decide) rfl rfl 50 (by decide) eq11746 (hT _ tb_1424) (fun _ h9 => h9) dX12_forward_89 ?_
                    refine lv_bipush (v := 12) hx hb dX12_forward_92 (by decide) ?_
                    refine lv_iload_n hx hb dX12_forward_94 rfl (lv_at hl 3 rfl) ?_
                    refine lv_iadd hx hb dX12_forward_95 (lv_topi (fun zi11782 ea11783 => ?_))
                    have bd11784 : (12 : Int) ≤ zi11782.toInt ∧ zi11782.toInt ≤ 19 := b_iadd ea11783 bc_12 bd11733 (by decide) (by decide) (by decide) (by decide)
                    refine lv_aload_n hx hb dX12_forward_96 rfl (lv_at hl 0 rfl) ?_
                    refine lv_iload_n hx hb dX12_forward_97 rfl (lv_at hl 3 rfl) ?_
                    refine kq_i hw hS hA (va_runV (As := [.int zi11473]) (rest := [.int zi11782, .ref qa11030]) ⟨hx, hb, hml, hown, hT⟩ (cX12_verdictOf_0 l G cy ev K ln Ls hW _ hp11474 ok11476 qa900 zi11473 kd900 (b_wid2 bd11733 (by decide) (by decide))) (cwV 1 hT (good_V tb_1801 tb_1798 tb_1800 tb_86 tb_122) rfl rfl rfl (by decide +kernel) ⟨Nat.le_of_ble_eq_true rfl, Nat.le_of_ble_eq_true rfl⟩) (pool_preV (ci := 12) hK hE hS hA hw hW kd900 (by decide) rfl) rfl rfl hl.1 rfl (lv_room (Nat.le_of_ble_eq_true rfl)) dX12_forward_98 ⟨Nat.le_of_ble_eq_true rfl, Nat.le_of_ble_eq_true rfl⟩) (fun zi11789 hp11785 H locs hq11788 hw hS => ?_)
                    obtain ⟨ok11786, F11787, bd11790⟩ := hq11788
                    obtain rfl : hp11474 = hp11785 := (Fr.nil F11787).symm
                    have hw : PW G cy K ln Ls A hp11474 H := hw
                    refine p_iast (x := zi11789) hx hb hK hw hS hW kd11031 (by decide) rfl (hW.len kd11031 (n := 40) rfl (by decide)) (vp_b bd11784 (by decide) (by decide)) dX12_forward_101 (fun hp11791 eh11792 H locs hw hS => ?_)
                    have ok11793 := wr_93000 ok11476 kd11031 eh11792
                    refine lv_aload_n hx hb dX12_forward_102 rfl (lv_at hl 0 rfl) ?_
                    have eq11794 : hp11791 qa900 50 = .ref qa11030 := Eq.trans (up_at eh11792 (Or.inl (kd_ne kd900 kd11031 (by decide)))) eq11746
                    refine p_get (ci := 12) (v := .ref qa11030) (C := RX12) (T := TX12) (N := 69) hx hb hT iw_X12 hown hK hw hW kd900 (by decide) rfl rfl 50 (by decide) eq11794 (hT _ tb_1424) (fun _ h9 => h9) dX12_forward_103 ?_
                    refine lv_iconst (v := 4) hx hb dX12_forward_106 (by decide) ?_
                    refine lv_iload_n hx hb dX12_forward_107 rfl (lv_at hl 3 rfl) ?_
                    refine lv_iadd hx hb dX12_forward_108 (lv_topi (fun zi11795 ea11796 => ?_))
                    have bd11797 : (4 : Int) ≤ zi11795.toInt ∧ zi11795.toInt ≤ 11 := b_iadd ea11796 bc_4 bd11733 (by decide) (by decide) (by decide) (by decide)
                    refine lv_dup2_11 hx hb dX12_forward_109 rfl rfl ?_
                    obtain ⟨zi11799, eq11798⟩ := rd_93000 ok11793 kd11031 ((zi11795 : Int32).toNatClampNeg)
                    refine p_iald (v := zi11799) hx hb hK hw hW kd11031 (by decide) rfl (hW.len kd11031 (n := 40) rfl (by decide)) (vp_b bd11797 (by decide) (by decide)) eq11798 dX12_forward_110 ?_
                    refine lv_iconst (v := 1) hx hb dX12_forward_111 (by decide) ?_
                    refine lv_iadd hx hb dX12_forward_112 (lv_topi (fun zi11800 ea11801 => ?_))
                    refine p_iast (x := zi11800) hx hb hK hw hS hW kd11031 (by decide) rfl (hW.len kd11031 (n := 40) rfl (by decide)) (vp_b bd11797 (by decide) (by decide)) dX12_forward_113 (fun hp11802 eh11803 H locs hw hS => ?_)
                    have ok11804 := wr_93000 ok11793 kd11031 eh11803
                    exact jn11776 hp11802 _ _ ls ok11804 (Fr.put (cq := 93000) (Fr.put (cq := 93000) (Fr.rf) eh11792 kd11031 (cd_a (by decide)) (by decide)) eh11803 kd11031 (cd_a (by decide)) (by decide)) (lv_sub hl [0, 1, 2, 3] rfl) hw hS
                  · skip
                    refine lv_goto (tgt := 114) hx hb dX12_forward_85 (by decide) ?_
                    exact jn11776 hp11474 _ _ ls ok11476 (Fr.rf) (lv_sub hl [0, 1, 2, 3] rfl) hw hS
            exact lp11644 _ hp11053 0 _ _ ls (lp_in _) ok11055 (Fr.rf) (b_wid2 bc_0 (by decide) (by decide)) (lv_sub hl [1, 2, 3, 0] rfl) hw hS
          refine lv_icmp_ne (tgt := 47) hx hb dX12_forward_39 (by decide) (fun cn11048 => ?_) (fun cn11048 => ?_)
          · skip
            exact jn11056 hp11042 _ _ ls ok11044 (Fr.rf) (lv_sub hl [0, 1, 2] rfl) hw hS
          · skip
            have bd11805 : (-2147483647 : Int) ≤ zi11047.toInt ∧ zi11047.toInt ≤ 100000 := r_eq_x (cn11048).symm (b_all zi11047) bd11039 (by decide) (by decide)
            refine lv_aload_n hx hb dX12_forward_42 rfl (lv_at hl 0 rfl) ?_
            refine lv_iconst (v := 1) hx hb dX12_forward_43 (by decide) ?_
            refine p_put (ci := 12) (v := .int 1) (ty := .boolean) (C := RX12) (T := TX12) (N := 69) hx hb hT iw_X12 tyX12 tyX12_ok nmX12 hown hK hw hS hW kd900 (by decide) rfl rfl 51 (by decide) (hT _ tb_1425) (fun _ h9 => h9) rfl (by decide +kernel) (nz_n bc_1 (by decide) (by decide)) (nz_f bc_1 (by decide) (by decide)) dX12_forward_44 (fun hp11806 eh11807 H locs hw hS => ?_)
            have ok11808 := wr_13051 bc_1 (by decide) (by decide) ok11044 kd900 eh11807
            exact jn11056 hp11806 _ _ ls ok11808 (Fr.put (cq := 13051) (Fr.rf) eh11807 kd900 (cd_o (by decide)) (by decide)) (lv_sub hl [0, 1, 2] rfl) hw hS
  exact lp11024 _ hp0 0 _ _ ls (lp_in _) ok0 (Fr.rf) (b_wid2 bc_0 (by decide) (by decide)) (lv_sub hl [1, 2, 0] rfl) hw hS
