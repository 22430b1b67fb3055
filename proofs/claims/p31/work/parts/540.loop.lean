set_option maxRecDepth 100000 in
set_option maxHeartbeats 16000000 in
theorem law_loop {p : Program} {e : Env} {s : State} {m : MethodId} {below : List Frame} {meth : Method} {c : Code} (l : Launch) {b L : Nat} {xs : Nat → Int32} (hL : L ≤ 3072) (hx : p.tables.exec = Jvm.exec) (hb : c.code = code) (hr : meth.sig.returnType = ret) (hml : c.maxLocals = 4) (hown : s.vm.findClass "LieClockLaw" = some m.cls) (hT : ∀ w ∈ TB, w.before #[Value.ref b] s = true) (hX : va_X b L xs s s.heap) (hbl : b < s.heap.size) (hlocks : meth.locks = false) (G : va_G) (cy : Nat → ClassId) (ev : Ew) (hK : KK G cy s) (A : Nat → Prop) (hA : ∀ q : Nat, s.heap.size ≤ q → A q) (hAi : ∀ q : Nat, A q → s.heap.size ≤ q) (hbA : ¬ A b) (hE : EW ev A s s.heap) (K0 ln0 : Nat → Nat) (Ls0 : List Nat) (hW0 : SW K0 ln0 Ls0) (hp0 : Nat → Nat → Value) (ok0 : Ok K0 hp0) (qa900 qa901 : Nat) (km : K0 qa900 = 13) (kx : K0 qa901 = 12) (g0 : Nat) (pdNS : NSx K0 ln0 hp0 g0) (pdLW : LW hp0 qa900) (H : Heap) (locs : List Loc) (ls : Array Slot) (hl : lv_has ls 4 [(3, .int 0), (2, .ref qa900), (1, .ref qa901), (0, .ref b)]) (hw : PW G cy K0 ln0 Ls0 A hp0 H) (hS : va_S A s.heap H locs) : W p l e room_1 s m #[Value.ref b] below meth c H locs 400 100000 (lw_Z below #[Value.ref b] s) (F0 m 18 ls []) := by
  obtain ⟨Q, hQ⟩ : ∃ Q : State → Prop, Q = lw_Z below #[Value.ref b] s := ⟨_, rfl⟩
  rw [← hQ]
  obtain ⟨K, ln, Ls, gn, hW, gex, gfx, ok1, hga, km, kx, pdNS, hw⟩ : ∃ (K ln : Nat → Nat) (Ls : List Nat) (gn : Nat), SW K ln Ls ∧ EXx K0 ln0 K ln ∧ FrX wsA K0 hp0 hp0 ∧ Ok K hp0 ∧ g0 ≤ gn ∧ K qa900 = 13 ∧ K qa901 = 12 ∧ NSx K ln hp0 gn ∧ PW G cy K ln Ls A hp0 H := ⟨K0, ln0, Ls0, g0, hW0, EXx.rf, FrX.rf, ok0, Nat.le_refl _, km, kx, pdNS, hw⟩
  have hg0 : 256 ≤ g0 ∧ g0 ≤ 131072 := NSx.bd (by assumption)
  refine W.widen (k := 400 + (gn - g0)) (n := 100000 + 14 * (gn - g0)) (by omega) (by omega) ?_
  have lp5775 : ∀ (n5773 : Nat) (K ln : Nat → Nat) (Ls : List Nat) (gn : Nat) (hp2892 : Nat → Nat → Value) (zi2891 : Int32) (H : Heap) (locs : List Loc) (ls : Array Slot), 3072 - zi2891.toInt < (n5773 : Int) → SW K ln Ls → EXx K0 ln0 K ln → FrX wsA K0 hp0 hp2892 → Ok K hp2892 → NSx K ln hp2892 gn → g0 ≤ gn → LW hp2892 qa900 → K qa900 = 13 → K qa901 = 12 → ((0 : Int) ≤ zi2891.toInt ∧ zi2891.toInt ≤ 3072) → lv_has ls 4 [(0, .ref b), (1, .ref qa901), (2, .ref qa900), (3, .int zi2891)] → PW G cy K ln Ls A hp2892 H → va_S A s.heap H locs → W p l e room_1 s m #[Value.ref b] below meth c H locs (400 + (gn - g0)) (100000 + 14 * (gn - g0)) Q (F0 m 18 ls []) := by
    intro n5773
    induction n5773 with
    | zero =>
      intro K ln Ls gn hp2892 zi2891 H locs ls hm5776 hW gex gfx ok2893 pd2894 hga pd2895 kd2896 kd2897 bd2898 hl hw hS
      exact absurd hm5776 (by have := bd2898; omega)
    | succ n5773 ih5774 =>
      intro K ln Ls gn hp2892 zi2891 H locs ls hm5776 hW gex gfx ok2893 pd2894 hga pd2895 kd2896 kd2897 bd2898 hl hw hS
      have hgn := NSx.bd pd2894
      refine lv_iload_n hx hb dL_law_18 rfl (lv_at hl 3 rfl) ?_
      refine lv_aload_n hx hb dL_law_19 rfl (lv_at hl 0 rfl) ?_
      refine va_slen hx hb hX hbl hbA hS dL_law_20 (lv_topi (fun zi5777 ez5778 => ?_))
      have hl5779 : zi5777.toInt = (L : Nat) := ofNat_len ez5778.symm (by omega)
      have bd5780 : (0 : Int) ≤ zi5777.toInt ∧ zi5777.toInt ≤ 3072 := (by omega)
      refine lv_bipush (v := 6) hx hb dL_law_21 (by decide) ?_
      refine lv_isub hx hb dL_law_23 (lv_topi (fun zi5781 ea5782 => ?_))
      have bd5783 : (-6 : Int) ≤ zi5781.toInt ∧ zi5781.toInt ≤ 3066 := b_isub ea5782 bd5780 bc_6 (by decide) (by decide) (by decide) (by decide)
      have qe5784 : zi5781.toInt = (zi5777 : Int32).toInt - (6 : Int32).toInt := e_isub ea5782 bd5780 bc_6 (by decide) (by decide)
      have qe5785 : zi5781.toInt = zi5777.toInt - 6 := by have ha : (6 : Int32).toInt = 6 := (by decide); rw [ha] at qe5784; exact qe5784
      refine lv_icmp_gt (tgt := 1050) hx hb dL_law_24 (by decide) (fun cn5786 => ?_) (fun cn5786 => ?_)
      · skip
        have tf5787 : zi5781.toInt < zi2891.toInt := (fa_lt _ _).mp cn5786
        refine lv_iconst (v := 1) hx hb dL_law_1050 (by decide) ?_
        rw [hQ]
        refine va_forget (fun q hq => hAi _ (hS.2.2 q hq)) ?_
        refine W.widen (k := 600000) (n := 7302250) (by omega) (by omega) ?_
        exact lw_ret hx hb hr hlocks dL_law_1051
      · skip
        have tf5788 : zi2891.toInt ≤ zi5781.toInt := (fa_le _ _).mp (Int32.not_lt.mp cn5786)
        have bd5789 : (0 : Int) ≤ zi2891.toInt ∧ zi2891.toInt ≤ 3066 := r_le_x (Int32.not_lt.mp cn5786) bd2898 bd5783 (by decide) (by decide)
        have bd5790 : (0 : Int) ≤ zi5781.toInt ∧ zi5781.toInt ≤ 3066 := r_le_y (Int32.not_lt.mp cn5786) bd2898 bd5783 (by decide) (by decide)
        have bd5791 : (6 : Int) ≤ zi5777.toInt ∧ zi5777.toInt ≤ 3072 := (by have := qe5785; have := bd5790; have := bd5780; have := bc_6; omega)
        refine lv_aload_n hx hb dL_law_27 rfl (lv_at hl 0 rfl) ?_
        refine lv_iload_n hx hb dL_law_28 rfl (lv_at hl 3 rfl) ?_
        refine va_sld hx hb hX hbl hbA hS (vp_bv (by omega) (by omega)) dL_law_29 (lv_topi (fun zi5792 ez5793 => ?_))
        refine lv_bipush (v := 31) hx hb dL_law_30 (by decide) ?_
        refine lv_iand hx hb dL_law_32 (lv_topi (fun zi5794 ea5795 => ?_))
        have bd5796 : (0 : Int) ≤ zi5794.toInt ∧ zi5794.toInt ≤ 31 := b_and_r ea5795 bc_31 (by decide) (by decide) (by decide)
        by_cases cn5797 : zi5794 = 0
        · skip
          refine lv_tableIn (tgt := 176) hx hb dL_law_33 (by rw [cn5797]; decide) (by rw [cn5797]; decide) (by rw [cn5797]; rfl) (by decide) ?_
          have bd5861 : (0 : Int) ≤ zi5794.toInt ∧ zi5794.toInt ≤ 0 := r_eq_x cn5797 bd5796 bc_0 (by decide) (by decide)
          refine lv_aload_n hx hb dL_law_176 rfl (lv_at hl 1 rfl) ?_
          refine lv_aload_n hx hb dL_law_177 rfl (lv_at hl 0 rfl) ?_
          refine lv_iload_n hx hb dL_law_178 rfl (lv_at hl 3 rfl) ?_
          refine lv_iconst (v := 1) hx hb dL_law_179 (by decide) ?_
          refine lv_iadd hx hb dL_law_180 (lv_topi (fun zi5862 ea5863 => ?_))
          have bd5864 : (1 : Int) ≤ zi5862.toInt ∧ zi5862.toInt ≤ 3067 := b_iadd ea5863 bd5789 bc_1 (by decide) (by decide) (by decide) (by decide)
          have qe5865 : zi5862.toInt = (zi2891 : Int32).toInt + (1 : Int32).toInt := e_iadd ea5863 bd5789 bc_1 (by decide) (by decide)
          have qe5866 : zi5862.toInt = zi2891.toInt + 1 := by have ha : (1 : Int32).toInt = 1 := (by decide); rw [ha] at qe5865; exact qe5865
          refine va_sld hx hb hX hbl hbA hS (vp_bv (by omega) (by omega)) dL_law_181 (lv_topi (fun zi5867 ez5868 => ?_))
          refine lv_aload_n hx hb dL_law_182 rfl (lv_at hl 0 rfl) ?_
          refine lv_iload_n hx hb dL_law_183 rfl (lv_at hl 3 rfl) ?_
          refine lv_iconst (v := 2) hx hb dL_law_184 (by decide) ?_
          refine lv_iadd hx hb dL_law_185 (lv_topi (fun zi5869 ea5870 => ?_))
          have bd5871 : (2 : Int) ≤ zi5869.toInt ∧ zi5869.toInt ≤ 3068 := b_iadd ea5870 bd5789 bc_2 (by decide) (by decide) (by decide) (by decide)
          have qe5872 : zi5869.toInt = (zi2891 : Int32).toInt + (2 : Int32).toInt := e_iadd ea5870 bd5789 bc_2 (by decide) (by decide)
          have qe5873 : zi5869.toInt = zi2891.toInt + 2 := by have ha : (2 : Int32).toInt = 2 := (by decide); rw [ha] at qe5872; exact qe5872
          refine va_sld hx hb hX hbl hbA hS (vp_bv (by omega) (by omega)) dL_law_186 (lv_topi (fun zi5874 ez5875 => ?_))
          refine lv_aload_n hx hb dL_law_187 rfl (lv_at hl 0 rfl) ?_
          refine lv_iload_n hx hb dL_law_188 rfl (lv_at hl 3 rfl) ?_
          refine lv_iconst (v := 3) hx hb dL_law_189 (by decide) ?_
          refine lv_iadd hx hb dL_law_190 (lv_topi (fun zi5876 ea5877 => ?_))
          have bd5878 : (3 : Int) ≤ zi5876.toInt ∧ zi5876.toInt ≤ 3069 := b_iadd ea5877 bd5789 bc_3 (by decide) (by decide) (by decide) (by decide)
          have qe5879 : zi5876.toInt = (zi2891 : Int32).toInt + (3 : Int32).toInt := e_iadd ea5877 bd5789 bc_3 (by decide) (by decide)
          have qe5880 : zi5876.toInt = zi2891.toInt + 3 := by have ha : (3 : Int32).toInt = 3 := (by decide); rw [ha] at qe5879; exact qe5879
          refine va_sld hx hb hX hbl hbA hS (vp_bv (by omega) (by omega)) dL_law_191 (lv_topi (fun zi5881 ez5882 => ?_))
          refine lv_aload_n hx hb dL_law_192 rfl (lv_at hl 0 rfl) ?_
          refine lv_iload_n hx hb dL_law_193 rfl (lv_at hl 3 rfl) ?_
          refine lv_iconst (v := 4) hx hb dL_law_194 (by decide) ?_
          refine lv_iadd hx hb dL_law_195 (lv_topi (fun zi5883 ea5884 => ?_))
          have bd5885 : (4 : Int) ≤ zi5883.toInt ∧ zi5883.toInt ≤ 3070 := b_iadd ea5884 bd5789 bc_4 (by decide) (by decide) (by decide) (by decide)
          have qe5886 : zi5883.toInt = (zi2891 : Int32).toInt + (4 : Int32).toInt := e_iadd ea5884 bd5789 bc_4 (by decide) (by decide)
          have qe5887 : zi5883.toInt = zi2891.toInt + 4 := by have ha : (4 : Int32).toInt = 4 := (by decide); rw [ha] at qe5886; exact qe5886
          refine va_sld hx hb hX hbl hbA hS (vp_bv (by omega) (by omega)) dL_law_196 (lv_topi (fun zi5888 ez5889 => ?_))
          refine lv_aload_n hx hb dL_law_197 rfl (lv_at hl 0 rfl) ?_
          refine lv_iload_n hx hb dL_law_198 rfl (lv_at hl 3 rfl) ?_
          refine lv_iconst (v := 5) hx hb dL_law_199 (by decide) ?_
          refine lv_iadd hx hb dL_law_200 (lv_topi (fun zi5890 ea5891 => ?_))
          have bd5892 : (5 : Int) ≤ zi5890.toInt ∧ zi5890.toInt ≤ 3071 := b_iadd ea5891 bd5789 bc_5 (by decide) (by decide) (by decide) (by decide)
          have qe5893 : zi5890.toInt = (zi2891 : Int32).toInt + (5 : Int32).toInt := e_iadd ea5891 bd5789 bc_5 (by decide) (by decide)
          have qe5894 : zi5890.toInt = zi2891.toInt + 5 := by have ha : (5 : Int32).toInt = 5 := (by decide); rw [ha] at qe5893; exact qe5893
          refine va_sld hx hb hX hbl hbA hS (vp_bv (by omega) (by omega)) dL_law_201 (lv_topi (fun zi5895 ez5896 => ?_))
          refine kq_i hw hS hA (va_runV (As := [.int zi5867, .int zi5874, .int zi5881, .int zi5888, .int zi5895]) (rest := []) ⟨hx, hb, hml, hown, hT⟩ (cX11_feed_0 l G cy ev K ln Ls hW _ hp2892 ok2893 qa901 zi5867 zi5874 zi5881 zi5888 zi5895 kd2897) (cwV 5 hT (good_V tb_712 tb_709 tb_710 tb_711 tb_105) rfl rfl rfl (by decide +kernel) ⟨Nat.le_of_ble_eq_true rfl, Nat.le_of_ble_eq_true rfl⟩) (pool_preV (ci := 11) hK hE hS hA hw hW kd2897 (by decide) rfl) rfl rfl hl.1 rfl (lv_room (Nat.le_of_ble_eq_true rfl)) dL_law_202 ⟨(show (400 + (gn - g0)) + 0 ≤ 600000 from by omega), (show (100000 + 14 * (gn - g0)) + 0 ≤ 7302250 from by omega)⟩) (fun zi5901 hp5897 H locs hq5900 hw hS => ?_)
          obtain ⟨ok5898, F5899, bd5902⟩ := hq5900
          have hw : PW G cy K ln Ls A hp5897 H := hw
          refine lv_pop hx hb dL_law_205 rfl ?_
          refine lv_aload_n hx hb dL_law_206 rfl (lv_at hl 2 rfl) ?_
          refine lv_aload_n hx hb dL_law_207 rfl (lv_at hl 0 rfl) ?_
          refine lv_iload_n hx hb dL_law_208 rfl (lv_at hl 3 rfl) ?_
          refine lv_iconst (v := 1) hx hb dL_law_209 (by decide) ?_
          refine lv_iadd hx hb dL_law_210 (lv_topi (fun zi5903 ea5904 => ?_))
          have bd5905 : (1 : Int) ≤ zi5903.toInt ∧ zi5903.toInt ≤ 3067 := b_iadd ea5904 bd5789 bc_1 (by decide) (by decide) (by decide) (by decide)
          have qe5906 : zi5903.toInt = (zi2891 : Int32).toInt + (1 : Int32).toInt := e_iadd ea5904 bd5789 bc_1 (by decide) (by decide)
          have qe5907 : zi5903.toInt = zi2891.toInt + 1 := by have ha : (1 : Int32).toInt = 1 := (by decide); rw [ha] at qe5906; exact qe5906
          refine va_sld hx hb hX hbl hbA hS (vp_bv (by omega) (by omega)) dL_law_211 (lv_topi (fun zi5908 ez5909 => ?_))
          refine lv_aload_n hx hb dL_law_212 rfl (lv_at hl 0 rfl) ?_
          refine lv_iload_n hx hb dL_law_213 rfl (lv_at hl 3 rfl) ?_
          refine lv_iconst (v := 2) hx hb dL_law_214 (by decide) ?_
          refine lv_iadd hx hb dL_law_215 (lv_topi (fun zi5910 ea5911 => ?_))
          have bd5912 : (2 : Int) ≤ zi5910.toInt ∧ zi5910.toInt ≤ 3068 := b_iadd ea5911 bd5789 bc_2 (by decide) (by decide) (by decide) (by decide)
          have qe5913 : zi5910.toInt = (zi2891 : Int32).toInt + (2 : Int32).toInt := e_iadd ea5911 bd5789 bc_2 (by decide) (by decide)
          have qe5914 : zi5910.toInt = zi2891.toInt + 2 := by have ha : (2 : Int32).toInt = 2 := (by decide); rw [ha] at qe5913; exact qe5913
          refine va_sld hx hb hX hbl hbA hS (vp_bv (by omega) (by omega)) dL_law_216 (lv_topi (fun zi5915 ez5916 => ?_))
          refine lv_aload_n hx hb dL_law_217 rfl (lv_at hl 0 rfl) ?_
          refine lv_iload_n hx hb dL_law_218 rfl (lv_at hl 3 rfl) ?_
          refine lv_iconst (v := 3) hx hb dL_law_219 (by decide) ?_
          refine lv_iadd hx hb dL_law_220 (lv_topi (fun zi5917 ea5918 => ?_))
          have bd5919 : (3 : Int) ≤ zi5917.toInt ∧ zi5917.toInt ≤ 3069 := b_iadd ea5918 bd5789 bc_3 (by decide) (by decide) (by decide) (by decide)
          have qe5920 : zi5917.toInt = (zi2891 : Int32).toInt + (3 : Int32).toInt := e_iadd ea5918 bd5789 bc_3 (by decide) (by decide)
          have qe5921 : zi5917.toInt = zi2891.toInt + 3 := by have ha : (3 : Int32).toInt = 3 := (by decide); rw [ha] at qe5920; exact qe5920
          refine va_sld hx hb hX hbl hbA hS (vp_bv (by omega) (by omega)) dL_law_221 (lv_topi (fun zi5922 ez5923 => ?_))
          refine lv_aload_n hx hb dL_law_222 rfl (lv_at hl 0 rfl) ?_
          refine lv_iload_n hx hb dL_law_223 rfl (lv_at hl 3 rfl) ?_
          refine lv_iconst (v := 4) hx hb dL_law_224 (by decide) ?_
          refine lv_iadd hx hb dL_law_225 (lv_topi (fun zi5924 ea5925 => ?_))
          have bd5926 : (4 : Int) ≤ zi5924.toInt ∧ zi5924.toInt ≤ 3070 := b_iadd ea5925 bd5789 bc_4 (by decide) (by decide) (by decide) (by decide)
          have qe5927 : zi5924.toInt = (zi2891 : Int32).toInt + (4 : Int32).toInt := e_iadd ea5925 bd5789 bc_4 (by decide) (by decide)
          have qe5928 : zi5924.toInt = zi2891.toInt + 4 := by have ha : (4 : Int32).toInt = 4 := (by decide); rw [ha] at qe5927; exact qe5927
          refine va_sld hx hb hX hbl hbA hS (vp_bv (by omega) (by omega)) dL_law_226 (lv_topi (fun zi5929 ez5930 => ?_))
          refine lv_aload_n hx hb dL_law_227 rfl (lv_at hl 0 rfl) ?_
          refine lv_iload_n hx hb dL_law_228 rfl (lv_at hl 3 rfl) ?_
          refine lv_iconst (v := 5) hx hb dL_law_229 (by decide) ?_
          refine lv_iadd hx hb dL_law_230 (lv_topi (fun zi5931 ea5932 => ?_))
          have bd5933 : (5 : Int) ≤ zi5931.toInt ∧ zi5931.toInt ≤ 3071 := b_iadd ea5932 bd5789 bc_5 (by decide) (by decide) (by decide) (by decide)
          have qe5934 : zi5931.toInt = (zi2891 : Int32).toInt + (5 : Int32).toInt := e_iadd ea5932 bd5789 bc_5 (by decide) (by decide)
          have qe5935 : zi5931.toInt = zi2891.toInt + 5 := by have ha : (5 : Int32).toInt = 5 := (by decide); rw [ha] at qe5934; exact qe5934
          refine va_sld hx hb hX hbl hbA hS (vp_bv (by omega) (by omega)) dL_law_231 (lv_topi (fun zi5936 ez5937 => ?_))
          refine kq_i hw hS hA (va_runV (As := [.int zi5908, .int zi5915, .int zi5922, .int zi5929, .int zi5936]) (rest := []) ⟨hx, hb, hml, hown, hT⟩ (cX12_feed_0 l G cy ev K ln Ls hW _ hp5897 ok5898 qa900 zi5908 zi5915 zi5922 zi5929 zi5936 kd2896) (cwV 5 hT (good_V tb_1585 tb_1582 tb_1583 tb_1584 tb_122) rfl rfl rfl (by decide +kernel) ⟨Nat.le_of_ble_eq_true rfl, Nat.le_of_ble_eq_true rfl⟩) (pool_preV (ci := 12) hK hE hS hA hw hW kd2896 (by decide) rfl) rfl rfl hl.1 rfl (lv_room (Nat.le_of_ble_eq_true rfl)) dL_law_232 ⟨(show (400 + (gn - g0)) + 0 ≤ 600000 from by omega), (show (100000 + 14 * (gn - g0)) + 0 ≤ 7302250 from by omega)⟩) (fun zi5942 hp5938 H locs hq5941 hw hS => ?_)
          obtain ⟨ok5939, F5940, bd5943, ⟨zi5944, eq5945, bd5946⟩⟩ := hq5941
          have hw : PW G cy K ln Ls A hp5938 H := hw
          refine lv_pop hx hb dL_law_235 rfl ?_
          refine lv_goto (tgt := 1044) hx hb dL_law_236 (by decide) ?_
          obtain ⟨zi5947, ea5948⟩ : ∃ z : Int32, z = zi2891 + 6 := ⟨_, rfl⟩
          have bd5949 : (6 : Int) ≤ zi5947.toInt ∧ zi5947.toInt ≤ 3072 := b_iadd ea5948 bd5789 bc_6 (by decide) (by decide) (by decide) (by decide)
          have qe5950 : zi5947.toInt = (zi2891 : Int32).toInt + (6 : Int32).toInt := e_iadd ea5948 bd5789 bc_6 (by decide) (by decide)
          have qe5951 : zi5947.toInt = zi2891.toInt + 6 := by have ha : (6 : Int32).toInt = 6 := (by decide); rw [ha] at qe5950; exact qe5950
          refine lv_iinc (v := zi5947) (lv' := [(3, .int zi5947), (0, .ref b), (1, .ref qa901), (2, .ref qa900)]) hx hb dL_law_1044 hl (k := 3) rfl ea5948.symm (by decide) rfl (fun ls hl => ?_)
          refine lv_goto (tgt := 18) hx hb dL_law_1047 (by decide) ?_
          have pd5952 : NSx K ln hp5938 gn := NSx_fr ok2893  (show Fr [9001, 13002, 43000, 60000] K hp2892 hp5938 from (Fr.tr (Fr.tr (Fr.rf) F5899 (by decide)) F5940 (by decide))) (by decide) pd2894
          have pd5953 : LW hp5938 qa900 := LW_fr ok2893 kd2896 (show Fr [9001, 13002, 43000, 60000] K hp2892 hp5938 from (Fr.tr (Fr.tr (Fr.rf) F5899 (by decide)) F5940 (by decide))) (by decide) pd2895
          exact ih5774 K ln Ls gn hp5938 zi5947 _ _ ls (by have := hm5776; have := qe5951; omega) hW gex (FrX.tr gfx gex (FrX.of (show Fr [9001, 13002, 43000, 60000] K hp2892 hp5938 from (Fr.tr (Fr.tr (Fr.rf) F5899 (by decide)) F5940 (by decide)))) (by decide +kernel)) ok5939 pd5952 (by omega) pd5953 kd2896 kd2897 (b_wid2 bd5949 (by decide) (by decide)) (lv_sub hl [1, 2, 3, 0] rfl) hw hS
        by_cases cn5798 : zi5794 = 1
        · skip
          refine lv_tableIn (tgt := 239) hx hb dL_law_33 (by rw [cn5798]; decide) (by rw [cn5798]; decide) (by rw [cn5798]; rfl) (by decide) ?_
          have bd5954 : (1 : Int) ≤ zi5794.toInt ∧ zi5794.toInt ≤ 1 := r_eq_x cn5798 bd5796 bc_1 (by decide) (by decide)
          refine lv_aload_n hx hb dL_law_239 rfl (lv_at hl 1 rfl) ?_
          refine lv_aload_n hx hb dL_law_240 rfl (lv_at hl 0 rfl) ?_
          refine lv_iload_n hx hb dL_law_241 rfl (lv_at hl 3 rfl) ?_
          refine lv_iconst (v := 1) hx hb dL_law_242 (by decide) ?_
          refine lv_iadd hx hb dL_law_243 (lv_topi (fun zi5955 ea5956 => ?_))
          have bd5957 : (1 : Int) ≤ zi5955.toInt ∧ zi5955.toInt ≤ 3067 := b_iadd ea5956 bd5789 bc_1 (by decide) (by decide) (by decide) (by decide)
          have qe5958 : zi5955.toInt = (zi2891 : Int32).toInt + (1 : Int32).toInt := e_iadd ea5956 bd5789 bc_1 (by decide) (by decide)
          have qe5959 : zi5955.toInt = zi2891.toInt + 1 := by have ha : (1 : Int32).toInt = 1 := (by decide); rw [ha] at qe5958; exact qe5958
          refine va_sld hx hb hX hbl hbA hS (vp_bv (by omega) (by omega)) dL_law_244 (lv_topi (fun zi5960 ez5961 => ?_))
          refine kq_i hw hS hA (va_runV (As := [.int zi5960]) (rest := []) ⟨hx, hb, hml, hown, hT⟩ (cX11_back_0 l G cy ev K ln Ls hW _ hp2892 ok2893 qa901 zi5960 kd2897) (cwV 1 hT (good_V tb_720 tb_717 tb_718 tb_719 tb_105) rfl rfl rfl (by decide +kernel) ⟨Nat.le_of_ble_eq_true rfl, Nat.le_of_ble_eq_true rfl⟩) (pool_preV (ci := 11) hK hE hS hA hw hW kd2897 (by decide) rfl) rfl rfl hl.1 rfl (lv_room (Nat.le_of_ble_eq_true rfl)) dL_law_245 ⟨(show (400 + (gn - g0)) + 0 ≤ 600000 from by omega), (show (100000 + 14 * (gn - g0)) + 0 ≤ 7302250 from by omega)⟩) (fun zi5966 hp5962 H locs hq5965 hw hS => ?_)
          obtain ⟨ok5963, F5964, bd5967⟩ := hq5965
          have hw : PW G cy K ln Ls A hp5962 H := hw
          refine lv_pop hx hb dL_law_248 rfl ?_
          refine lv_aload_n hx hb dL_law_249 rfl (lv_at hl 2 rfl) ?_
          refine lv_aload_n hx hb dL_law_250 rfl (lv_at hl 0 rfl) ?_
          refine lv_iload_n hx hb dL_law_251 rfl (lv_at hl 3 rfl) ?_
          refine lv_iconst (v := 1) hx hb dL_law_252 (by decide) ?_
          refine lv_iadd hx hb dL_law_253 (lv_topi (fun zi5968 ea5969 => ?_))
          have bd5970 : (1 : Int) ≤ zi5968.toInt ∧ zi5968.toInt ≤ 3067 := b_iadd ea5969 bd5789 bc_1 (by decide) (by decide) (by decide) (by decide)
          have qe5971 : zi5968.toInt = (zi2891 : Int32).toInt + (1 : Int32).toInt := e_iadd ea5969 bd5789 bc_1 (by decide) (by decide)
          have qe5972 : zi5968.toInt = zi2891.toInt + 1 := by have ha : (1 : Int32).toInt = 1 := (by decide); rw [ha] at qe5971; exact qe5971
          refine va_sld hx hb hX hbl hbA hS (vp_bv (by omega) (by omega)) dL_law_254 (lv_topi (fun zi5973 ez5974 => ?_))
          refine kq_i hw hS hA (va_runV (As := [.int zi5973]) (rest := []) ⟨hx, hb, hml, hown, hT⟩ (cX12_back_0 l G cy ev K ln Ls hW _ hp5962 ok5963 qa900 zi5973 kd2896) (cwV 1 hT (good_V tb_1593 tb_1590 tb_1591 tb_1592 tb_122) rfl rfl rfl (by decide +kernel) ⟨Nat.le_of_ble_eq_true rfl, Nat.le_of_ble_eq_true rfl⟩) (pool_preV (ci := 12) hK hE hS hA hw hW kd2896 (by decide) rfl) rfl rfl hl.1 rfl (lv_room (Nat.le_of_ble_eq_true rfl)) dL_law_255 ⟨(show (400 + (gn - g0)) + 0 ≤ 600000 from by omega), (show (100000 + 14 * (gn - g0)) + 0 ≤ 7302250 from by omega)⟩) (fun zi5979 hp5975 H locs hq5978 hw hS => ?_)
          obtain ⟨ok5976, F5977, bd5980⟩ := hq5978
          have hw : PW G cy K ln Ls A hp5975 H := hw
          refine lv_pop hx hb dL_law_258 rfl ?_
          refine lv_goto (tgt := 1044) hx hb dL_law_259 (by decide) ?_
          obtain ⟨zi5981, ea5982⟩ : ∃ z : Int32, z = zi2891 + 6 := ⟨_, rfl⟩
          have bd5983 : (6 : Int) ≤ zi5981.toInt ∧ zi5981.toInt ≤ 3072 := b_iadd ea5982 bd5789 bc_6 (by decide) (by decide) (by decide) (by decide)
          have qe5984 : zi5981.toInt = (zi2891 : Int32).toInt + (6 : Int32).toInt := e_iadd ea5982 bd5789 bc_6 (by decide) (by decide)
          have qe5985 : zi5981.toInt = zi2891.toInt + 6 := by have ha : (6 : Int32).toInt = 6 := (by decide); rw [ha] at qe5984; exact qe5984
          refine lv_iinc (v := zi5981) (lv' := [(3, .int zi5981), (0, .ref b), (1, .ref qa901), (2, .ref qa900)]) hx hb dL_law_1044 hl (k := 3) rfl ea5982.symm (by decide) rfl (fun ls hl => ?_)
          refine lv_goto (tgt := 18) hx hb dL_law_1047 (by decide) ?_
          have pd5986 : NSx K ln hp5975 gn := NSx_fr ok2893  (show Fr [9001, 13002] K hp2892 hp5975 from (Fr.tr (Fr.tr (Fr.rf) F5964 (by decide)) F5977 (by decide))) (by decide) pd2894
          have pd5987 : LW hp5975 qa900 := LW_fr ok2893 kd2896 (show Fr [9001, 13002] K hp2892 hp5975 from (Fr.tr (Fr.tr (Fr.rf) F5964 (by decide)) F5977 (by decide))) (by decide) pd2895
          exact ih5774 K ln Ls gn hp5975 zi5981 _ _ ls (by have := hm5776; have := qe5985; omega) hW gex (FrX.tr gfx gex (FrX.of (show Fr [9001, 13002] K hp2892 hp5975 from (Fr.tr (Fr.tr (Fr.rf) F5964 (by decide)) F5977 (by decide)))) (by decide +kernel)) ok5976 pd5986 (by omega) pd5987 kd2896 kd2897 (b_wid2 bd5983 (by decide) (by decide)) (lv_sub hl [1, 2, 3, 0] rfl) hw hS
        by_cases cn5799 : zi5794 = 2
        · skip
          refine lv_tableIn (tgt := 262) hx hb dL_law_33 (by rw [cn5799]; decide) (by rw [cn5799]; decide) (by rw [cn5799]; rfl) (by decide) ?_
          have bd5988 : (2 : Int) ≤ zi5794.toInt ∧ zi5794.toInt ≤ 2 := r_eq_x cn5799 bd5796 bc_2 (by decide) (by decide)
          refine lv_aload_n hx hb dL_law_262 rfl (lv_at hl 1 rfl) ?_
          refine kq_i hw hS hA (va_runV (As := []) (rest := []) ⟨hx, hb, hml, hown, hT⟩ (cX11_read_0 l G cy ev K ln Ls hW _ hp2892 ok2893 qa901 kd2897) (cwV 0 hT (good_V tb_724 tb_721 tb_722 tb_723 tb_105) rfl rfl rfl (by decide +kernel) ⟨Nat.le_of_ble_eq_true rfl, Nat.le_of_ble_eq_true rfl⟩) (pool_preV (ci := 11) hK hE hS hA hw hW kd2897 (by decide) rfl) rfl rfl hl.1 rfl (lv_room (Nat.le_of_ble_eq_true rfl)) dL_law_263 ⟨(show (400 + (gn - g0)) + 0 ≤ 600000 from by omega), (show (100000 + 14 * (gn - g0)) + 0 ≤ 7302250 from by omega)⟩) (fun zi5993 hp5989 H locs hq5992 hw hS => ?_)
          obtain ⟨ok5990, F5991⟩ := hq5992
          have hw : PW G cy K ln Ls A hp5989 H := hw
          refine lv_pop hx hb dL_law_266 rfl ?_
          refine lv_aload_n hx hb dL_law_267 rfl (lv_at hl 2 rfl) ?_
          have pd5994 : LW hp5989 qa900 := LW_fr ok2893 kd2896 (show Fr [1005, 2003, 3002, 5005, 6001, 6002, 6003, 6004, 6005, 6006, 8000, 8001, 8002, 8003, 8004, 8005, 9001, 10004, 11000, 11001, 11002, 11003, 11004, 11005, 11006, 11007, 11008, 11009, 12001, 12003, 12004, 12008, 22000, 26000, 40000, 41000, 42000, 44000, 45000, 46000, 48000, 49000, 50000, 51000, 52000, 53000, 54000, 55000, 59000] K hp2892 hp5989 from (Fr.tr (Fr.rf) F5991 (by decide))) (by decide) pd2895
          refine kq_i hw hS hA (va_runV (As := []) (rest := []) ⟨hx, hb, hml, hown, hT⟩ (cX12_read_0 l G cy ev K ln Ls hW _ hp5989 ok5990 qa900 kd2896 pd5994) (cwV 0 hT (good_V tb_1597 tb_1594 tb_1595 tb_1596 tb_122) rfl rfl rfl (by decide +kernel) ⟨Nat.le_of_ble_eq_true rfl, Nat.le_of_ble_eq_true rfl⟩) (pool_preV (ci := 12) hK hE hS hA hw hW kd2896 (by decide) rfl) rfl rfl hl.1 rfl (lv_room (Nat.le_of_ble_eq_true rfl)) dL_law_268 ⟨(show (400 + (gn - g0)) + 0 ≤ 600000 from by omega), (show (100000 + 14 * (gn - g0)) + 0 ≤ 7302250 from by omega)⟩) (fun zi5999 hp5995 H locs hq5998 hw hS => ?_)
          obtain ⟨ok5996, F5997, bd6000, ⟨zi6001, eq6002, bd6003⟩, ⟨zi6004, eq6005, bd6006⟩, xq6007⟩ := hq5998
          have hw : PW G cy K ln Ls A hp5995 H := hw
          refine lv_pop hx hb dL_law_271 rfl ?_
          refine lv_goto (tgt := 1044) hx hb dL_law_272 (by decide) ?_
          obtain ⟨zi6008, ea6009⟩ : ∃ z : Int32, z = zi2891 + 6 := ⟨_, rfl⟩
          have bd6010 : (6 : Int) ≤ zi6008.toInt ∧ zi6008.toInt ≤ 3072 := b_iadd ea6009 bd5789 bc_6 (by decide) (by decide) (by decide) (by decide)
          have qe6011 : zi6008.toInt = (zi2891 : Int32).toInt + (6 : Int32).toInt := e_iadd ea6009 bd5789 bc_6 (by decide) (by decide)
          have qe6012 : zi6008.toInt = zi2891.toInt + 6 := by have ha : (6 : Int32).toInt = 6 := (by decide); rw [ha] at qe6011; exact qe6011
          refine lv_iinc (v := zi6008) (lv' := [(3, .int zi6008), (0, .ref b), (1, .ref qa901), (2, .ref qa900)]) hx hb dL_law_1044 hl (k := 3) rfl ea6009.symm (by decide) rfl (fun ls hl => ?_)
          refine lv_goto (tgt := 18) hx hb dL_law_1047 (by decide) ?_
          have pd6013 : NSx K ln hp5995 gn := NSx_fr ok2893  (show Fr [1005, 2003, 3002, 5005, 6001, 6002, 6003, 6004, 6005, 6006, 8000, 8001, 8002, 8003, 8004, 8005, 9001, 10004, 11000, 11001, 11002, 11003, 11004, 11005, 11006, 11007, 11008, 11009, 12001, 12003, 12004, 12008, 13002, 13004, 13010, 13011, 13012, 13013, 13014, 13015, 13016, 13017, 13018, 13019, 13020, 13038, 13045, 13053, 13061, 22000, 26000, 40000, 41000, 42000, 44000, 45000, 46000, 48000, 49000, 50000, 51000, 52000, 53000, 54000, 55000, 59000, 61000, 62000, 63000, 64000, 65000, 67000, 68000, 69000, 70000, 71000, 72000, 73000, 74000, 75000, 76000, 77000, 78000, 79000, 80000, 81000, 82000, 83000, 84000, 85000, 86000, 87000, 88000, 89000, 92000, 93000, 101000] K hp2892 hp5995 from (Fr.tr (Fr.tr (Fr.rf) F5991 (by decide)) F5997 (by decide))) (by decide) pd2894
          exact ih5774 K ln Ls gn hp5995 zi6008 _ _ ls (by have := hm5776; have := qe6012; omega) hW gex (FrX.tr gfx gex (FrX.of (show Fr [1005, 2003, 3002, 5005, 6001, 6002, 6003, 6004, 6005, 6006, 8000, 8001, 8002, 8003, 8004, 8005, 9001, 10004, 11000, 11001, 11002, 11003, 11004, 11005, 11006, 11007, 11008, 11009, 12001, 12003, 12004, 12008, 13002, 13004, 13010, 13011, 13012, 13013, 13014, 13015, 13016, 13017, 13018, 13019, 13020, 13038, 13045, 13053, 13061, 22000, 26000, 40000, 41000, 42000, 44000, 45000, 46000, 48000, 49000, 50000, 51000, 52000, 53000, 54000, 55000, 59000, 61000, 62000, 63000, 64000, 65000, 67000, 68000, 69000, 70000, 71000, 72000, 73000, 74000, 75000, 76000, 77000, 78000, 79000, 80000, 81000, 82000, 83000, 84000, 85000, 86000, 87000, 88000, 89000, 92000, 93000, 101000] K hp2892 hp5995 from (Fr.tr (Fr.tr (Fr.rf) F5991 (by decide)) F5997 (by decide)))) (by decide +kernel)) ok5996 pd6013 (by omega) xq6007 kd2896 kd2897 (b_wid2 bd6010 (by decide) (by decide)) (lv_sub hl [1, 2, 3, 0] rfl) hw hS
        by_cases cn5800 : zi5794 = 3
        · skip
          refine lv_tableIn (tgt := 275) hx hb dL_law_33 (by rw [cn5800]; decide) (by rw [cn5800]; decide) (by rw [cn5800]; rfl) (by decide) ?_
          have bd6014 : (3 : Int) ≤ zi5794.toInt ∧ zi5794.toInt ≤ 3 := r_eq_x cn5800 bd5796 bc_3 (by decide) (by decide)
          refine lv_aload_n hx hb dL_law_275 rfl (lv_at hl 1 rfl) ?_
          refine kq_i hw hS hA (va_runV (As := []) (rest := []) ⟨hx, hb, hml, hown, hT⟩ (cX11_place_0 l G cy ev K ln Ls hW _ hp2892 ok2893 qa901 kd2897) (cwV 0 hT (good_V tb_981 tb_978 tb_979 tb_980 tb_105) rfl rfl rfl (by decide +kernel) ⟨Nat.le_of_ble_eq_true rfl, Nat.le_of_ble_eq_true rfl⟩) (pool_preV (ci := 11) hK hE hS hA hw hW kd2897 (by decide) rfl) rfl rfl hl.1 rfl (lv_room (Nat.le_of_ble_eq_true rfl)) dL_law_276 ⟨(show (400 + (gn - g0)) + 0 ≤ 600000 from by omega), (show (100000 + 14 * (gn - g0)) + 0 ≤ 7302250 from by omega)⟩) (fun zi6019 hp6015 H locs hq6018 hw hS => ?_)
          obtain ⟨ok6016, F6017⟩ := hq6018
          obtain rfl : hp2892 = hp6015 := (Fr.nil F6017).symm
          have hw : PW G cy K ln Ls A hp2892 H := hw
          refine lv_pop hx hb dL_law_279 rfl ?_
          refine lv_aload_n hx hb dL_law_280 rfl (lv_at hl 2 rfl) ?_
          refine kq_i hw hS hA (va_runV (As := []) (rest := []) ⟨hx, hb, hml, hown, hT⟩ (cX12_place_0 l G cy ev K ln Ls hW _ hp2892 ok2893 qa900 kd2896) (cwV 0 hT (good_V tb_1723 tb_1720 tb_1721 tb_1722 tb_122) rfl rfl rfl (by decide +kernel) ⟨Nat.le_of_ble_eq_true rfl, Nat.le_of_ble_eq_true rfl⟩) (pool_preV (ci := 12) hK hE hS hA hw hW kd2896 (by decide) rfl) rfl rfl hl.1 rfl (lv_room (Nat.le_of_ble_eq_true rfl)) dL_law_281 ⟨(show (400 + (gn - g0)) + 0 ≤ 600000 from by omega), (show (100000 + 14 * (gn - g0)) + 0 ≤ 7302250 from by omega)⟩) (fun zi6024 hp6020 H locs hq6023 hw hS => ?_)
          obtain ⟨ok6021, F6022⟩ := hq6023
          obtain rfl : hp2892 = hp6020 := (Fr.nil F6022).symm
          have hw : PW G cy K ln Ls A hp2892 H := hw
          refine lv_pop hx hb dL_law_284 rfl ?_
          refine lv_goto (tgt := 1044) hx hb dL_law_285 (by decide) ?_
          obtain ⟨zi6025, ea6026⟩ : ∃ z : Int32, z = zi2891 + 6 := ⟨_, rfl⟩
          have bd6027 : (6 : Int) ≤ zi6025.toInt ∧ zi6025.toInt ≤ 3072 := b_iadd ea6026 bd5789 bc_6 (by decide) (by decide) (by decide) (by decide)
          have qe6028 : zi6025.toInt = (zi2891 : Int32).toInt + (6 : Int32).toInt := e_iadd ea6026 bd5789 bc_6 (by decide) (by decide)
          have qe6029 : zi6025.toInt = zi2891.toInt + 6 := by have ha : (6 : Int32).toInt = 6 := (by decide); rw [ha] at qe6028; exact qe6028
          refine lv_iinc (v := zi6025) (lv' := [(3, .int zi6025), (0, .ref b), (1, .ref qa901), (2, .ref qa900)]) hx hb dL_law_1044 hl (k := 3) rfl ea6026.symm (by decide) rfl (fun ls hl => ?_)
          refine lv_goto (tgt := 18) hx hb dL_law_1047 (by decide) ?_
          exact ih5774 K ln Ls gn hp2892 zi6025 _ _ ls (by have := hm5776; have := qe6029; omega) hW gex gfx ok2893 pd2894 (by omega) pd2895 kd2896 kd2897 (b_wid2 bd6027 (by decide) (by decide)) (lv_sub hl [1, 2, 3, 0] rfl) hw hS
        by_cases cn5801 : zi5794 = 4
        · skip
          refine lv_tableIn (tgt := 288) hx hb dL_law_33 (by rw [cn5801]; decide) (by rw [cn5801]; decide) (by rw [cn5801]; rfl) (by decide) ?_
          have bd6030 : (4 : Int) ≤ zi5794.toInt ∧ zi5794.toInt ≤ 4 := r_eq_x cn5801 bd5796 bc_4 (by decide) (by decide)
          refine lv_aload_n hx hb dL_law_288 rfl (lv_at hl 1 rfl) ?_
          refine kq_i hw hS hA (va_runV (As := []) (rest := []) ⟨hx, hb, hml, hown, hT⟩ (cX11_clock_0 l G cy ev K ln Ls hW _ hp2892 ok2893 qa901 kd2897) (cwV 0 hT (good_V tb_985 tb_982 tb_983 tb_984 tb_105) rfl rfl rfl (by decide +kernel) ⟨Nat.le_of_ble_eq_true rfl, Nat.le_of_ble_eq_true rfl⟩) (pool_preV (ci := 11) hK hE hS hA hw hW kd2897 (by decide) rfl) rfl rfl hl.1 rfl (lv_room (Nat.le_of_ble_eq_true rfl)) dL_law_289 ⟨(show (400 + (gn - g0)) + 0 ≤ 600000 from by omega), (show (100000 + 14 * (gn - g0)) + 0 ≤ 7302250 from by omega)⟩) (fun zi6035 hp6031 H locs hq6034 hw hS => ?_)
          obtain ⟨ok6032, F6033⟩ := hq6034
          obtain rfl : hp2892 = hp6031 := (Fr.nil F6033).symm
          have hw : PW G cy K ln Ls A hp2892 H := hw
          refine lv_pop hx hb dL_law_292 rfl ?_
          refine lv_aload_n hx hb dL_law_293 rfl (lv_at hl 2 rfl) ?_
          refine kq_i hw hS hA (va_runV (As := []) (rest := []) ⟨hx, hb, hml, hown, hT⟩ (cX12_clock_0 l G cy ev K ln Ls hW _ hp2892 ok2893 qa900 kd2896) (cwV 0 hT (good_V tb_1727 tb_1724 tb_1725 tb_1726 tb_122) rfl rfl rfl (by decide +kernel) ⟨Nat.le_of_ble_eq_true rfl, Nat.le_of_ble_eq_true rfl⟩) (pool_preV (ci := 12) hK hE hS hA hw hW kd2896 (by decide) rfl) rfl rfl hl.1 rfl (lv_room (Nat.le_of_ble_eq_true rfl)) dL_law_294 ⟨(show (400 + (gn - g0)) + 0 ≤ 600000 from by omega), (show (100000 + 14 * (gn - g0)) + 0 ≤ 7302250 from by omega)⟩) (fun zi6040 hp6036 H locs hq6039 hw hS => ?_)
          obtain ⟨ok6037, F6038⟩ := hq6039
          obtain rfl : hp2892 = hp6036 := (Fr.nil F6038).symm
          have hw : PW G cy K ln Ls A hp2892 H := hw
          refine lv_pop hx hb dL_law_297 rfl ?_
          refine lv_goto (tgt := 1044) hx hb dL_law_298 (by decide) ?_
          obtain ⟨zi6041, ea6042⟩ : ∃ z : Int32, z = zi2891 + 6 := ⟨_, rfl⟩
          have bd6043 : (6 : Int) ≤ zi6041.toInt ∧ zi6041.toInt ≤ 3072 := b_iadd ea6042 bd5789 bc_6 (by decide) (by decide) (by decide) (by decide)
          have qe6044 : zi6041.toInt = (zi2891 : Int32).toInt + (6 : Int32).toInt := e_iadd ea6042 bd5789 bc_6 (by decide) (by decide)
          have qe6045 : zi6041.toInt = zi2891.toInt + 6 := by have ha : (6 : Int32).toInt = 6 := (by decide); rw [ha] at qe6044; exact qe6044
          refine lv_iinc (v := zi6041) (lv' := [(3, .int zi6041), (0, .ref b), (1, .ref qa901), (2, .ref qa900)]) hx hb dL_law_1044 hl (k := 3) rfl ea6042.symm (by decide) rfl (fun ls hl => ?_)
          refine lv_goto (tgt := 18) hx hb dL_law_1047 (by decide) ?_
          exact ih5774 K ln Ls gn hp2892 zi6041 _ _ ls (by have := hm5776; have := qe6045; omega) hW gex gfx ok2893 pd2894 (by omega) pd2895 kd2896 kd2897 (b_wid2 bd6043 (by decide) (by decide)) (lv_sub hl [1, 2, 3, 0] rfl) hw hS
        by_cases cn5802 : zi5794 = 5
        · skip
          refine lv_tableIn (tgt := 301) hx hb dL_law_33 (by rw [cn5802]; decide) (by rw [cn5802]; decide) (by rw [cn5802]; rfl) (by decide) ?_
          have bd6046 : (5 : Int) ≤ zi5794.toInt ∧ zi5794.toInt ≤ 5 := r_eq_x cn5802 bd5796 bc_5 (by decide) (by decide)
          refine lv_aload_n hx hb dL_law_301 rfl (lv_at hl 1 rfl) ?_
          refine lv_aload_n hx hb dL_law_302 rfl (lv_at hl 0 rfl) ?_
          refine lv_iload_n hx hb dL_law_303 rfl (lv_at hl 3 rfl) ?_
          refine lv_iconst (v := 1) hx hb dL_law_304 (by decide) ?_
          refine lv_iadd hx hb dL_law_305 (lv_topi (fun zi6047 ea6048 => ?_))
          have bd6049 : (1 : Int) ≤ zi6047.toInt ∧ zi6047.toInt ≤ 3067 := b_iadd ea6048 bd5789 bc_1 (by decide) (by decide) (by decide) (by decide)
          have qe6050 : zi6047.toInt = (zi2891 : Int32).toInt + (1 : Int32).toInt := e_iadd ea6048 bd5789 bc_1 (by decide) (by decide)
          have qe6051 : zi6047.toInt = zi2891.toInt + 1 := by have ha : (1 : Int32).toInt = 1 := (by decide); rw [ha] at qe6050; exact qe6050
          refine va_sld hx hb hX hbl hbA hS (vp_bv (by omega) (by omega)) dL_law_306 (lv_topi (fun zi6052 ez6053 => ?_))
          refine lv_aload_n hx hb dL_law_307 rfl (lv_at hl 0 rfl) ?_
          refine lv_iload_n hx hb dL_law_308 rfl (lv_at hl 3 rfl) ?_
          refine lv_iconst (v := 2) hx hb dL_law_309 (by decide) ?_
          refine lv_iadd hx hb dL_law_310 (lv_topi (fun zi6054 ea6055 => ?_))
          have bd6056 : (2 : Int) ≤ zi6054.toInt ∧ zi6054.toInt ≤ 3068 := b_iadd ea6055 bd5789 bc_2 (by decide) (by decide) (by decide) (by decide)
          have qe6057 : zi6054.toInt = (zi2891 : Int32).toInt + (2 : Int32).toInt := e_iadd ea6055 bd5789 bc_2 (by decide) (by decide)
          have qe6058 : zi6054.toInt = zi2891.toInt + 2 := by have ha : (2 : Int32).toInt = 2 := (by decide); rw [ha] at qe6057; exact qe6057
          refine va_sld hx hb hX hbl hbA hS (vp_bv (by omega) (by omega)) dL_law_311 (lv_topi (fun zi6059 ez6060 => ?_))
          refine kq_i hw hS hA (va_runV (As := [.int zi6052, .int zi6059]) (rest := []) ⟨hx, hb, hml, hown, hT⟩ (cX11_fact_0 l G cy ev K ln Ls hW _ hp2892 ok2893 qa901 zi6052 zi6059 kd2897) (cwV 2 hT (good_V tb_989 tb_986 tb_987 tb_988 tb_105) rfl rfl rfl (by decide +kernel) ⟨Nat.le_of_ble_eq_true rfl, Nat.le_of_ble_eq_true rfl⟩) (pool_preV (ci := 11) hK hE hS hA hw hW kd2897 (by decide) rfl) rfl rfl hl.1 rfl (lv_room (Nat.le_of_ble_eq_true rfl)) dL_law_312 ⟨(show (400 + (gn - g0)) + 0 ≤ 600000 from by omega), (show (100000 + 14 * (gn - g0)) + 0 ≤ 7302250 from by omega)⟩) (fun zi6065 hp6061 H locs hq6064 hw hS => ?_)
          obtain ⟨ok6062, F6063, bd6066⟩ := hq6064
          obtain rfl : hp2892 = hp6061 := (Fr.nil F6063).symm
          have hw : PW G cy K ln Ls A hp2892 H := hw
          refine lv_pop hx hb dL_law_315 rfl ?_
          refine lv_aload_n hx hb dL_law_316 rfl (lv_at hl 2 rfl) ?_
          refine lv_aload_n hx hb dL_law_317 rfl (lv_at hl 0 rfl) ?_
          refine lv_iload_n hx hb dL_law_318 rfl (lv_at hl 3 rfl) ?_
          refine lv_iconst (v := 1) hx hb dL_law_319 (by decide) ?_
          refine lv_iadd hx hb dL_law_320 (lv_topi (fun zi6067 ea6068 => ?_))
          have bd6069 : (1 : Int) ≤ zi6067.toInt ∧ zi6067.toInt ≤ 3067 := b_iadd ea6068 bd5789 bc_1 (by decide) (by decide) (by decide) (by decide)
          have qe6070 : zi6067.toInt = (zi2891 : Int32).toInt + (1 : Int32).toInt := e_iadd ea6068 bd5789 bc_1 (by decide) (by decide)
          have qe6071 : zi6067.toInt = zi2891.toInt + 1 := by have ha : (1 : Int32).toInt = 1 := (by decide); rw [ha] at qe6070; exact qe6070
          refine va_sld hx hb hX hbl hbA hS (vp_bv (by omega) (by omega)) dL_law_321 (lv_topi (fun zi6072 ez6073 => ?_))
          refine lv_aload_n hx hb dL_law_322 rfl (lv_at hl 0 rfl) ?_
          refine lv_iload_n hx hb dL_law_323 rfl (lv_at hl 3 rfl) ?_
          refine lv_iconst (v := 2) hx hb dL_law_324 (by decide) ?_
          refine lv_iadd hx hb dL_law_325 (lv_topi (fun zi6074 ea6075 => ?_))
          have bd6076 : (2 : Int) ≤ zi6074.toInt ∧ zi6074.toInt ≤ 3068 := b_iadd ea6075 bd5789 bc_2 (by decide) (by decide) (by decide) (by decide)
          have qe6077 : zi6074.toInt = (zi2891 : Int32).toInt + (2 : Int32).toInt := e_iadd ea6075 bd5789 bc_2 (by decide) (by decide)
          have qe6078 : zi6074.toInt = zi2891.toInt + 2 := by have ha : (2 : Int32).toInt = 2 := (by decide); rw [ha] at qe6077; exact qe6077
          refine va_sld hx hb hX hbl hbA hS (vp_bv (by omega) (by omega)) dL_law_326 (lv_topi (fun zi6079 ez6080 => ?_))
          refine kq_i hw hS hA (va_runV (As := [.int zi6072, .int zi6079]) (rest := []) ⟨hx, hb, hml, hown, hT⟩ (cX12_fact_0 l G cy ev K ln Ls hW _ hp2892 ok2893 qa900 zi6072 zi6079 kd2896) (cwV 2 hT (good_V tb_1731 tb_1728 tb_1729 tb_1730 tb_122) rfl rfl rfl (by decide +kernel) ⟨Nat.le_of_ble_eq_true rfl, Nat.le_of_ble_eq_true rfl⟩) (pool_preV (ci := 12) hK hE hS hA hw hW kd2896 (by decide) rfl) rfl rfl hl.1 rfl (lv_room (Nat.le_of_ble_eq_true rfl)) dL_law_327 ⟨(show (400 + (gn - g0)) + 0 ≤ 600000 from by omega), (show (100000 + 14 * (gn - g0)) + 0 ≤ 7302250 from by omega)⟩) (fun zi6085 hp6081 H locs hq6084 hw hS => ?_)
          obtain ⟨ok6082, F6083, bd6086⟩ := hq6084
          obtain rfl : hp2892 = hp6081 := (Fr.nil F6083).symm
          have hw : PW G cy K ln Ls A hp2892 H := hw
          refine lv_pop hx hb dL_law_330 rfl ?_
          refine lv_goto (tgt := 1044) hx hb dL_law_331 (by decide) ?_
          obtain ⟨zi6087, ea6088⟩ : ∃ z : Int32, z = zi2891 + 6 := ⟨_, rfl⟩
          have bd6089 : (6 : Int) ≤ zi6087.toInt ∧ zi6087.toInt ≤ 3072 := b_iadd ea6088 bd5789 bc_6 (by decide) (by decide) (by decide) (by decide)
          have qe6090 : zi6087.toInt = (zi2891 : Int32).toInt + (6 : Int32).toInt := e_iadd ea6088 bd5789 bc_6 (by decide) (by decide)
          have qe6091 : zi6087.toInt = zi2891.toInt + 6 := by have ha : (6 : Int32).toInt = 6 := (by decide); rw [ha] at qe6090; exact qe6090
          refine lv_iinc (v := zi6087) (lv' := [(3, .int zi6087), (0, .ref b), (1, .ref qa901), (2, .ref qa900)]) hx hb dL_law_1044 hl (k := 3) rfl ea6088.symm (by decide) rfl (fun ls hl => ?_)
          refine lv_goto (tgt := 18) hx hb dL_law_1047 (by decide) ?_
          exact ih5774 K ln Ls gn hp2892 zi6087 _ _ ls (by have := hm5776; have := qe6091; omega) hW gex gfx ok2893 pd2894 (by omega) pd2895 kd2896 kd2897 (b_wid2 bd6089 (by decide) (by decide)) (lv_sub hl [1, 2, 3, 0] rfl) hw hS
        by_cases cn5803 : zi5794 = 6
        · skip
          refine lv_tableIn (tgt := 334) hx hb dL_law_33 (by rw [cn5803]; decide) (by rw [cn5803]; decide) (by rw [cn5803]; rfl) (by decide) ?_
          have bd6092 : (6 : Int) ≤ zi5794.toInt ∧ zi5794.toInt ≤ 6 := r_eq_x cn5803 bd5796 bc_6 (by decide) (by decide)
          refine lv_aload_n hx hb dL_law_334 rfl (lv_at hl 1 rfl) ?_
          refine lv_aload_n hx hb dL_law_335 rfl (lv_at hl 0 rfl) ?_
          refine lv_iload_n hx hb dL_law_336 rfl (lv_at hl 3 rfl) ?_
          refine lv_iconst (v := 1) hx hb dL_law_337 (by decide) ?_
          refine lv_iadd hx hb dL_law_338 (lv_topi (fun zi6093 ea6094 => ?_))
          have bd6095 : (1 : Int) ≤ zi6093.toInt ∧ zi6093.toInt ≤ 3067 := b_iadd ea6094 bd5789 bc_1 (by decide) (by decide) (by decide) (by decide)
          have qe6096 : zi6093.toInt = (zi2891 : Int32).toInt + (1 : Int32).toInt := e_iadd ea6094 bd5789 bc_1 (by decide) (by decide)
          have qe6097 : zi6093.toInt = zi2891.toInt + 1 := by have ha : (1 : Int32).toInt = 1 := (by decide); rw [ha] at qe6096; exact qe6096
          refine va_sld hx hb hX hbl hbA hS (vp_bv (by omega) (by omega)) dL_law_339 (lv_topi (fun zi6098 ez6099 => ?_))
          refine lv_aload_n hx hb dL_law_340 rfl (lv_at hl 0 rfl) ?_
          refine lv_iload_n hx hb dL_law_341 rfl (lv_at hl 3 rfl) ?_
          refine lv_iconst (v := 2) hx hb dL_law_342 (by decide) ?_
          refine lv_iadd hx hb dL_law_343 (lv_topi (fun zi6100 ea6101 => ?_))
          have bd6102 : (2 : Int) ≤ zi6100.toInt ∧ zi6100.toInt ≤ 3068 := b_iadd ea6101 bd5789 bc_2 (by decide) (by decide) (by decide) (by decide)
          have qe6103 : zi6100.toInt = (zi2891 : Int32).toInt + (2 : Int32).toInt := e_iadd ea6101 bd5789 bc_2 (by decide) (by decide)
          have qe6104 : zi6100.toInt = zi2891.toInt + 2 := by have ha : (2 : Int32).toInt = 2 := (by decide); rw [ha] at qe6103; exact qe6103
          refine va_sld hx hb hX hbl hbA hS (vp_bv (by omega) (by omega)) dL_law_344 (lv_topi (fun zi6105 ez6106 => ?_))
          refine kq_i hw hS hA (va_runV (As := [.int zi6098, .int zi6105]) (rest := []) ⟨hx, hb, hml, hown, hT⟩ (cX11_word_0 l G cy ev K ln Ls hW _ hp2892 ok2893 qa901 zi6098 zi6105 kd2897) (cwV 2 hT (good_V tb_993 tb_990 tb_991 tb_992 tb_105) rfl rfl rfl (by decide +kernel) ⟨Nat.le_of_ble_eq_true rfl, Nat.le_of_ble_eq_true rfl⟩) (pool_preV (ci := 11) hK hE hS hA hw hW kd2897 (by decide) rfl) rfl rfl hl.1 rfl (lv_room (Nat.le_of_ble_eq_true rfl)) dL_law_345 ⟨(show (400 + (gn - g0)) + 0 ≤ 600000 from by omega), (show (100000 + 14 * (gn - g0)) + 0 ≤ 7302250 from by omega)⟩) (fun zi6111 hp6107 H locs hq6110 hw hS => ?_)
          obtain ⟨ok6108, F6109, bd6112⟩ := hq6110
          obtain rfl : hp2892 = hp6107 := (Fr.nil F6109).symm
          have hw : PW G cy K ln Ls A hp2892 H := hw
          refine lv_pop hx hb dL_law_348 rfl ?_
          refine lv_aload_n hx hb dL_law_349 rfl (lv_at hl 2 rfl) ?_
          refine lv_aload_n hx hb dL_law_350 rfl (lv_at hl 0 rfl) ?_
          refine lv_iload_n hx hb dL_law_351 rfl (lv_at hl 3 rfl) ?_
          refine lv_iconst (v := 1) hx hb dL_law_352 (by decide) ?_
          refine lv_iadd hx hb dL_law_353 (lv_topi (fun zi6113 ea6114 => ?_))
          have bd6115 : (1 : Int) ≤ zi6113.toInt ∧ zi6113.toInt ≤ 3067 := b_iadd ea6114 bd5789 bc_1 (by decide) (by decide) (by decide) (by decide)
          have qe6116 : zi6113.toInt = (zi2891 : Int32).toInt + (1 : Int32).toInt := e_iadd ea6114 bd5789 bc_1 (by decide) (by decide)
          have qe6117 : zi6113.toInt = zi2891.toInt + 1 := by have ha : (1 : Int32).toInt = 1 := (by decide); rw [ha] at qe6116; exact qe6116
          refine va_sld hx hb hX hbl hbA hS (vp_bv (by omega) (by omega)) dL_law_354 (lv_topi (fun zi6118 ez6119 => ?_))
          refine lv_aload_n hx hb dL_law_355 rfl (lv_at hl 0 rfl) ?_
          refine lv_iload_n hx hb dL_law_356 rfl (lv_at hl 3 rfl) ?_
          refine lv_iconst (v := 2) hx hb dL_law_357 (by decide) ?_
          refine lv_iadd hx hb dL_law_358 (lv_topi (fun zi6120 ea6121 => ?_))
          have bd6122 : (2 : Int) ≤ zi6120.toInt ∧ zi6120.toInt ≤ 3068 := b_iadd ea6121 bd5789 bc_2 (by decide) (by decide) (by decide) (by decide)
          have qe6123 : zi6120.toInt = (zi2891 : Int32).toInt + (2 : Int32).toInt := e_iadd ea6121 bd5789 bc_2 (by decide) (by decide)
          have qe6124 : zi6120.toInt = zi2891.toInt + 2 := by have ha : (2 : Int32).toInt = 2 := (by decide); rw [ha] at qe6123; exact qe6123
          refine va_sld hx hb hX hbl hbA hS (vp_bv (by omega) (by omega)) dL_law_359 (lv_topi (fun zi6125 ez6126 => ?_))
          refine kq_i hw hS hA (va_runV (As := [.int zi6118, .int zi6125]) (rest := []) ⟨hx, hb, hml, hown, hT⟩ (cX12_word__0 l G cy ev K ln Ls hW _ hp2892 ok2893 qa900 zi6118 zi6125 kd2896) (cwV 2 hT (good_V tb_1738 tb_1735 tb_1736 tb_1737 tb_122) rfl rfl rfl (by decide +kernel) ⟨Nat.le_of_ble_eq_true rfl, Nat.le_of_ble_eq_true rfl⟩) (pool_preV (ci := 12) hK hE hS hA hw hW kd2896 (by decide) rfl) rfl rfl hl.1 rfl (lv_room (Nat.le_of_ble_eq_true rfl)) dL_law_360 ⟨(show (400 + (gn - g0)) + 0 ≤ 600000 from by omega), (show (100000 + 14 * (gn - g0)) + 0 ≤ 7302250 from by omega)⟩) (fun zi6131 hp6127 H locs hq6130 hw hS => ?_)
          obtain ⟨ok6128, F6129⟩ := hq6130
          obtain rfl : hp2892 = hp6127 := (Fr.nil F6129).symm
          have hw : PW G cy K ln Ls A hp2892 H := hw
          refine lv_pop hx hb dL_law_363 rfl ?_
          refine lv_goto (tgt := 1044) hx hb dL_law_364 (by decide) ?_
          obtain ⟨zi6132, ea6133⟩ : ∃ z : Int32, z = zi2891 + 6 := ⟨_, rfl⟩
          have bd6134 : (6 : Int) ≤ zi6132.toInt ∧ zi6132.toInt ≤ 3072 := b_iadd ea6133 bd5789 bc_6 (by decide) (by decide) (by decide) (by decide)
          have qe6135 : zi6132.toInt = (zi2891 : Int32).toInt + (6 : Int32).toInt := e_iadd ea6133 bd5789 bc_6 (by decide) (by decide)
          have qe6136 : zi6132.toInt = zi2891.toInt + 6 := by have ha : (6 : Int32).toInt = 6 := (by decide); rw [ha] at qe6135; exact qe6135
          refine lv_iinc (v := zi6132) (lv' := [(3, .int zi6132), (0, .ref b), (1, .ref qa901), (2, .ref qa900)]) hx hb dL_law_1044 hl (k := 3) rfl ea6133.symm (by decide) rfl (fun ls hl => ?_)
          refine lv_goto (tgt := 18) hx hb dL_law_1047 (by decide) ?_
          exact ih5774 K ln Ls gn hp2892 zi6132 _ _ ls (by have := hm5776; have := qe6136; omega) hW gex gfx ok2893 pd2894 (by omega) pd2895 kd2896 kd2897 (b_wid2 bd6134 (by decide) (by decide)) (lv_sub hl [1, 2, 3, 0] rfl) hw hS
        by_cases cn5804 : zi5794 = 7
        · skip
          refine lv_tableIn (tgt := 367) hx hb dL_law_33 (by rw [cn5804]; decide) (by rw [cn5804]; decide) (by rw [cn5804]; rfl) (by decide) ?_
          have bd6137 : (7 : Int) ≤ zi5794.toInt ∧ zi5794.toInt ≤ 7 := r_eq_x cn5804 bd5796 bc_7 (by decide) (by decide)
          refine lv_aload_n hx hb dL_law_367 rfl (lv_at hl 1 rfl) ?_
          refine lv_aload_n hx hb dL_law_368 rfl (lv_at hl 0 rfl) ?_
          refine lv_iload_n hx hb dL_law_369 rfl (lv_at hl 3 rfl) ?_
          refine lv_iconst (v := 1) hx hb dL_law_370 (by decide) ?_
          refine lv_iadd hx hb dL_law_371 (lv_topi (fun zi6138 ea6139 => ?_))
          have bd6140 : (1 : Int) ≤ zi6138.toInt ∧ zi6138.toInt ≤ 3067 := b_iadd ea6139 bd5789 bc_1 (by decide) (by decide) (by decide) (by decide)
          have qe6141 : zi6138.toInt = (zi2891 : Int32).toInt + (1 : Int32).toInt := e_iadd ea6139 bd5789 bc_1 (by decide) (by decide)
          have qe6142 : zi6138.toInt = zi2891.toInt + 1 := by have ha : (1 : Int32).toInt = 1 := (by decide); rw [ha] at qe6141; exact qe6141
          refine va_sld hx hb hX hbl hbA hS (vp_bv (by omega) (by omega)) dL_law_372 (lv_topi (fun zi6143 ez6144 => ?_))
          refine lv_aload_n hx hb dL_law_373 rfl (lv_at hl 0 rfl) ?_
          refine lv_iload_n hx hb dL_law_374 rfl (lv_at hl 3 rfl) ?_
          refine lv_iconst (v := 2) hx hb dL_law_375 (by decide) ?_
          refine lv_iadd hx hb dL_law_376 (lv_topi (fun zi6145 ea6146 => ?_))
          have bd6147 : (2 : Int) ≤ zi6145.toInt ∧ zi6145.toInt ≤ 3068 := b_iadd ea6146 bd5789 bc_2 (by decide) (by decide) (by decide) (by decide)
          have qe6148 : zi6145.toInt = (zi2891 : Int32).toInt + (2 : Int32).toInt := e_iadd ea6146 bd5789 bc_2 (by decide) (by decide)
          have qe6149 : zi6145.toInt = zi2891.toInt + 2 := by have ha : (2 : Int32).toInt = 2 := (by decide); rw [ha] at qe6148; exact qe6148
          refine va_sld hx hb hX hbl hbA hS (vp_bv (by omega) (by omega)) dL_law_377 (lv_topi (fun zi6150 ez6151 => ?_))
          refine kq_i hw hS hA (va_runV (As := [.int zi6143, .int zi6150]) (rest := []) ⟨hx, hb, hml, hown, hT⟩ (cX11_witness_0 l G cy ev K ln Ls hW _ hp2892 ok2893 qa901 zi6143 zi6150 kd2897) (cwV 2 hT (good_V tb_1007 tb_1004 tb_1005 tb_1006 tb_105) rfl rfl rfl (by decide +kernel) ⟨Nat.le_of_ble_eq_true rfl, Nat.le_of_ble_eq_true rfl⟩) (pool_preV (ci := 11) hK hE hS hA hw hW kd2897 (by decide) rfl) rfl rfl hl.1 rfl (lv_room (Nat.le_of_ble_eq_true rfl)) dL_law_378 ⟨(show (400 + (gn - g0)) + 0 ≤ 600000 from by omega), (show (100000 + 14 * (gn - g0)) + 0 ≤ 7302250 from by omega)⟩) (fun zi6156 hp6152 H locs hq6155 hw hS => ?_)
          obtain ⟨ok6153, F6154, bd6157⟩ := hq6155
          obtain rfl : hp2892 = hp6152 := (Fr.nil F6154).symm
          have hw : PW G cy K ln Ls A hp2892 H := hw
          refine lv_pop hx hb dL_law_381 rfl ?_
          refine lv_aload_n hx hb dL_law_382 rfl (lv_at hl 2 rfl) ?_
          refine lv_aload_n hx hb dL_law_383 rfl (lv_at hl 0 rfl) ?_
          refine lv_iload_n hx hb dL_law_384 rfl (lv_at hl 3 rfl) ?_
          refine lv_iconst (v := 1) hx hb dL_law_385 (by decide) ?_
          refine lv_iadd hx hb dL_law_386 (lv_topi (fun zi6158 ea6159 => ?_))
          have bd6160 : (1 : Int) ≤ zi6158.toInt ∧ zi6158.toInt ≤ 3067 := b_iadd ea6159 bd5789 bc_1 (by decide) (by decide) (by decide) (by decide)
          have qe6161 : zi6158.toInt = (zi2891 : Int32).toInt + (1 : Int32).toInt := e_iadd ea6159 bd5789 bc_1 (by decide) (by decide)
          have qe6162 : zi6158.toInt = zi2891.toInt + 1 := by have ha : (1 : Int32).toInt = 1 := (by decide); rw [ha] at qe6161; exact qe6161
          refine va_sld hx hb hX hbl hbA hS (vp_bv (by omega) (by omega)) dL_law_387 (lv_topi (fun zi6163 ez6164 => ?_))
          refine lv_aload_n hx hb dL_law_388 rfl (lv_at hl 0 rfl) ?_
          refine lv_iload_n hx hb dL_law_389 rfl (lv_at hl 3 rfl) ?_
          refine lv_iconst (v := 2) hx hb dL_law_390 (by decide) ?_
          refine lv_iadd hx hb dL_law_391 (lv_topi (fun zi6165 ea6166 => ?_))
          have bd6167 : (2 : Int) ≤ zi6165.toInt ∧ zi6165.toInt ≤ 3068 := b_iadd ea6166 bd5789 bc_2 (by decide) (by decide) (by decide) (by decide)
          have qe6168 : zi6165.toInt = (zi2891 : Int32).toInt + (2 : Int32).toInt := e_iadd ea6166 bd5789 bc_2 (by decide) (by decide)
          have qe6169 : zi6165.toInt = zi2891.toInt + 2 := by have ha : (2 : Int32).toInt = 2 := (by decide); rw [ha] at qe6168; exact qe6168
          refine va_sld hx hb hX hbl hbA hS (vp_bv (by omega) (by omega)) dL_law_392 (lv_topi (fun zi6170 ez6171 => ?_))
          refine kq_i hw hS hA (va_runV (As := [.int zi6163, .int zi6170]) (rest := []) ⟨hx, hb, hml, hown, hT⟩ (cX12_witness_0 l G cy ev K ln Ls hW _ hp2892 ok2893 qa900 zi6163 zi6170 kd2896) (cwV 2 hT (good_V tb_1761 tb_1758 tb_1759 tb_1760 tb_122) rfl rfl rfl (by decide +kernel) ⟨Nat.le_of_ble_eq_true rfl, Nat.le_of_ble_eq_true rfl⟩) (pool_preV (ci := 12) hK hE hS hA hw hW kd2896 (by decide) rfl) rfl rfl hl.1 rfl (lv_room (Nat.le_of_ble_eq_true rfl)) dL_law_393 ⟨(show (400 + (gn - g0)) + 0 ≤ 600000 from by omega), (show (100000 + 14 * (gn - g0)) + 0 ≤ 7302250 from by omega)⟩) (fun zi6176 hp6172 H locs hq6175 hw hS => ?_)
          obtain ⟨ok6173, F6174, bd6177⟩ := hq6175
          have hw : PW G cy K ln Ls A hp6172 H := hw
          refine lv_pop hx hb dL_law_396 rfl ?_
          refine lv_goto (tgt := 1044) hx hb dL_law_397 (by decide) ?_
          obtain ⟨zi6178, ea6179⟩ : ∃ z : Int32, z = zi2891 + 6 := ⟨_, rfl⟩
          have bd6180 : (6 : Int) ≤ zi6178.toInt ∧ zi6178.toInt ≤ 3072 := b_iadd ea6179 bd5789 bc_6 (by decide) (by decide) (by decide) (by decide)
          have qe6181 : zi6178.toInt = (zi2891 : Int32).toInt + (6 : Int32).toInt := e_iadd ea6179 bd5789 bc_6 (by decide) (by decide)
          have qe6182 : zi6178.toInt = zi2891.toInt + 6 := by have ha : (6 : Int32).toInt = 6 := (by decide); rw [ha] at qe6181; exact qe6181
          refine lv_iinc (v := zi6178) (lv' := [(3, .int zi6178), (0, .ref b), (1, .ref qa901), (2, .ref qa900)]) hx hb dL_law_1044 hl (k := 3) rfl ea6179.symm (by decide) rfl (fun ls hl => ?_)
          refine lv_goto (tgt := 18) hx hb dL_law_1047 (by decide) ?_
          have pd6183 : NSx K ln hp6172 gn := NSx_fr ok2893  (show Fr [93000] K hp2892 hp6172 from (Fr.tr (Fr.rf) F6174 (by decide))) (by decide) pd2894
          have pd6184 : LW hp6172 qa900 := LW_fr ok2893 kd2896 (show Fr [93000] K hp2892 hp6172 from (Fr.tr (Fr.rf) F6174 (by decide))) (by decide) pd2895
          exact ih5774 K ln Ls gn hp6172 zi6178 _ _ ls (by have := hm5776; have := qe6182; omega) hW gex (FrX.tr gfx gex (FrX.of (show Fr [93000] K hp2892 hp6172 from (Fr.tr (Fr.rf) F6174 (by decide)))) (by decide +kernel)) ok6173 pd6183 (by omega) pd6184 kd2896 kd2897 (b_wid2 bd6180 (by decide) (by decide)) (lv_sub hl [1, 2, 3, 0] rfl) hw hS
        by_cases cn5805 : zi5794 = 8
        · skip
          refine lv_tableIn (tgt := 400) hx hb dL_law_33 (by rw [cn5805]; decide) (by rw [cn5805]; decide) (by rw [cn5805]; rfl) (by decide) ?_
          have bd6185 : (8 : Int) ≤ zi5794.toInt ∧ zi5794.toInt ≤ 8 := r_eq_x cn5805 bd5796 bc_8 (by decide) (by decide)
          refine lv_aload_n hx hb dL_law_400 rfl (lv_at hl 1 rfl) ?_
          refine lv_aload_n hx hb dL_law_401 rfl (lv_at hl 0 rfl) ?_
          refine lv_iload_n hx hb dL_law_402 rfl (lv_at hl 3 rfl) ?_
          refine lv_iconst (v := 1) hx hb dL_law_403 (by decide) ?_
          refine lv_iadd hx hb dL_law_404 (lv_topi (fun zi6186 ea6187 => ?_))
          have bd6188 : (1 : Int) ≤ zi6186.toInt ∧ zi6186.toInt ≤ 3067 := b_iadd ea6187 bd5789 bc_1 (by decide) (by decide) (by decide) (by decide)
          have qe6189 : zi6186.toInt = (zi2891 : Int32).toInt + (1 : Int32).toInt := e_iadd ea6187 bd5789 bc_1 (by decide) (by decide)
          have qe6190 : zi6186.toInt = zi2891.toInt + 1 := by have ha : (1 : Int32).toInt = 1 := (by decide); rw [ha] at qe6189; exact qe6189
          refine va_sld hx hb hX hbl hbA hS (vp_bv (by omega) (by omega)) dL_law_405 (lv_topi (fun zi6191 ez6192 => ?_))
          refine kq_i hw hS hA (va_runV (As := [.int zi6191]) (rest := []) ⟨hx, hb, hml, hown, hT⟩ (cX11_share_0 l G cy ev K ln Ls hW _ hp2892 ok2893 qa901 zi6191 kd2897) (cwV 1 hT (good_V tb_1021 tb_1018 tb_1019 tb_1020 tb_105) rfl rfl rfl (by decide +kernel) ⟨Nat.le_of_ble_eq_true rfl, Nat.le_of_ble_eq_true rfl⟩) (pool_preV (ci := 11) hK hE hS hA hw hW kd2897 (by decide) rfl) rfl rfl hl.1 rfl (lv_room (Nat.le_of_ble_eq_true rfl)) dL_law_406 ⟨(show (400 + (gn - g0)) + 0 ≤ 600000 from by omega), (show (100000 + 14 * (gn - g0)) + 0 ≤ 7302250 from by omega)⟩) (fun zi6197 hp6193 H locs hq6196 hw hS => ?_)
          obtain ⟨ok6194, F6195⟩ := hq6196
          obtain rfl : hp2892 = hp6193 := (Fr.nil F6195).symm
          have hw : PW G cy K ln Ls A hp2892 H := hw
          refine lv_pop hx hb dL_law_409 rfl ?_
          refine lv_aload_n hx hb dL_law_410 rfl (lv_at hl 2 rfl) ?_
          refine lv_aload_n hx hb dL_law_411 rfl (lv_at hl 0 rfl) ?_
          refine lv_iload_n hx hb dL_law_412 rfl (lv_at hl 3 rfl) ?_
          refine lv_iconst (v := 1) hx hb dL_law_413 (by decide) ?_
          refine lv_iadd hx hb dL_law_414 (lv_topi (fun zi6198 ea6199 => ?_))
          have bd6200 : (1 : Int) ≤ zi6198.toInt ∧ zi6198.toInt ≤ 3067 := b_iadd ea6199 bd5789 bc_1 (by decide) (by decide) (by decide) (by decide)
          have qe6201 : zi6198.toInt = (zi2891 : Int32).toInt + (1 : Int32).toInt := e_iadd ea6199 bd5789 bc_1 (by decide) (by decide)
          have qe6202 : zi6198.toInt = zi2891.toInt + 1 := by have ha : (1 : Int32).toInt = 1 := (by decide); rw [ha] at qe6201; exact qe6201
          refine va_sld hx hb hX hbl hbA hS (vp_bv (by omega) (by omega)) dL_law_415 (lv_topi (fun zi6203 ez6204 => ?_))
          refine kq_i hw hS hA (va_runV (As := [.int zi6203]) (rest := []) ⟨hx, hb, hml, hown, hT⟩ (cX12_share_0 l G cy ev K ln Ls hW _ hp2892 ok2893 qa900 zi6203 kd2896) (cwV 1 hT (good_V tb_1788 tb_1785 tb_1786 tb_1787 tb_122) rfl rfl rfl (by decide +kernel) ⟨Nat.le_of_ble_eq_true rfl, Nat.le_of_ble_eq_true rfl⟩) (pool_preV (ci := 12) hK hE hS hA hw hW kd2896 (by decide) rfl) rfl rfl hl.1 rfl (lv_room (Nat.le_of_ble_eq_true rfl)) dL_law_416 ⟨(show (400 + (gn - g0)) + 0 ≤ 600000 from by omega), (show (100000 + 14 * (gn - g0)) + 0 ≤ 7302250 from by omega)⟩) (fun zi6209 hp6205 H locs hq6208 hw hS => ?_)
          obtain ⟨ok6206, F6207⟩ := hq6208
          obtain rfl : hp2892 = hp6205 := (Fr.nil F6207).symm
          have hw : PW G cy K ln Ls A hp2892 H := hw
          refine lv_pop hx hb dL_law_419 rfl ?_
          refine lv_goto (tgt := 1044) hx hb dL_law_420 (by decide) ?_
          obtain ⟨zi6210, ea6211⟩ : ∃ z : Int32, z = zi2891 + 6 := ⟨_, rfl⟩
          have bd6212 : (6 : Int) ≤ zi6210.toInt ∧ zi6210.toInt ≤ 3072 := b_iadd ea6211 bd5789 bc_6 (by decide) (by decide) (by decide) (by decide)
          have qe6213 : zi6210.toInt = (zi2891 : Int32).toInt + (6 : Int32).toInt := e_iadd ea6211 bd5789 bc_6 (by decide) (by decide)
          have qe6214 : zi6210.toInt = zi2891.toInt + 6 := by have ha : (6 : Int32).toInt = 6 := (by decide); rw [ha] at qe6213; exact qe6213
          refine lv_iinc (v := zi6210) (lv' := [(3, .int zi6210), (0, .ref b), (1, .ref qa901), (2, .ref qa900)]) hx hb dL_law_1044 hl (k := 3) rfl ea6211.symm (by decide) rfl (fun ls hl => ?_)
          refine lv_goto (tgt := 18) hx hb dL_law_1047 (by decide) ?_
          exact ih5774 K ln Ls gn hp2892 zi6210 _ _ ls (by have := hm5776; have := qe6214; omega) hW gex gfx ok2893 pd2894 (by omega) pd2895 kd2896 kd2897 (b_wid2 bd6212 (by decide) (by decide)) (lv_sub hl [1, 2, 3, 0] rfl) hw hS
        by_cases cn5806 : zi5794 = 9
        · skip
          refine lv_tableIn (tgt := 423) hx hb dL_law_33 (by rw [cn5806]; decide) (by rw [cn5806]; decide) (by rw [cn5806]; rfl) (by decide) ?_
          have bd6215 : (9 : Int) ≤ zi5794.toInt ∧ zi5794.toInt ≤ 9 := r_eq_x cn5806 bd5796 bc_9 (by decide) (by decide)
          refine lv_aload_n hx hb dL_law_423 rfl (lv_at hl 1 rfl) ?_
          refine lv_aload_n hx hb dL_law_424 rfl (lv_at hl 0 rfl) ?_
          refine lv_iload_n hx hb dL_law_425 rfl (lv_at hl 3 rfl) ?_
          refine lv_iconst (v := 1) hx hb dL_law_426 (by decide) ?_
          refine lv_iadd hx hb dL_law_427 (lv_topi (fun zi6216 ea6217 => ?_))
          have bd6218 : (1 : Int) ≤ zi6216.toInt ∧ zi6216.toInt ≤ 3067 := b_iadd ea6217 bd5789 bc_1 (by decide) (by decide) (by decide) (by decide)
          have qe6219 : zi6216.toInt = (zi2891 : Int32).toInt + (1 : Int32).toInt := e_iadd ea6217 bd5789 bc_1 (by decide) (by decide)
          have qe6220 : zi6216.toInt = zi2891.toInt + 1 := by have ha : (1 : Int32).toInt = 1 := (by decide); rw [ha] at qe6219; exact qe6219
          refine va_sld hx hb hX hbl hbA hS (vp_bv (by omega) (by omega)) dL_law_428 (lv_topi (fun zi6221 ez6222 => ?_))
          refine lv_aload_n hx hb dL_law_429 rfl (lv_at hl 0 rfl) ?_
          refine lv_iload_n hx hb dL_law_430 rfl (lv_at hl 3 rfl) ?_
          refine lv_iconst (v := 2) hx hb dL_law_431 (by decide) ?_
          refine lv_iadd hx hb dL_law_432 (lv_topi (fun zi6223 ea6224 => ?_))
          have bd6225 : (2 : Int) ≤ zi6223.toInt ∧ zi6223.toInt ≤ 3068 := b_iadd ea6224 bd5789 bc_2 (by decide) (by decide) (by decide) (by decide)
          have qe6226 : zi6223.toInt = (zi2891 : Int32).toInt + (2 : Int32).toInt := e_iadd ea6224 bd5789 bc_2 (by decide) (by decide)
          have qe6227 : zi6223.toInt = zi2891.toInt + 2 := by have ha : (2 : Int32).toInt = 2 := (by decide); rw [ha] at qe6226; exact qe6226
          refine va_sld hx hb hX hbl hbA hS (vp_bv (by omega) (by omega)) dL_law_433 (lv_topi (fun zi6228 ez6229 => ?_))
          refine kq_i hw hS hA (va_runV (As := [.int zi6221, .int zi6228]) (rest := []) ⟨hx, hb, hml, hown, hT⟩ (cX11_hearing_0 l G cy ev K ln Ls hW _ hp2892 ok2893 qa901 zi6221 zi6228 kd2897) (cwV 2 hT (good_V tb_1026 tb_1023 tb_1024 tb_1025 tb_105) rfl rfl rfl (by decide +kernel) ⟨Nat.le_of_ble_eq_true rfl, Nat.le_of_ble_eq_true rfl⟩) (pool_preV (ci := 11) hK hE hS hA hw hW kd2897 (by decide) rfl) rfl rfl hl.1 rfl (lv_room (Nat.le_of_ble_eq_true rfl)) dL_law_434 ⟨(show (400 + (gn - g0)) + 0 ≤ 600000 from by omega), (show (100000 + 14 * (gn - g0)) + 0 ≤ 7302250 from by omega)⟩) (fun zi6234 hp6230 H locs hq6233 hw hS => ?_)
          obtain ⟨ok6231, F6232⟩ := hq6233
          obtain rfl : hp2892 = hp6230 := (Fr.nil F6232).symm
          have hw : PW G cy K ln Ls A hp2892 H := hw
          refine lv_pop hx hb dL_law_437 rfl ?_
          refine lv_aload_n hx hb dL_law_438 rfl (lv_at hl 2 rfl) ?_
          refine lv_aload_n hx hb dL_law_439 rfl (lv_at hl 0 rfl) ?_
          refine lv_iload_n hx hb dL_law_440 rfl (lv_at hl 3 rfl) ?_
          refine lv_iconst (v := 1) hx hb dL_law_441 (by decide) ?_
          refine lv_iadd hx hb dL_law_442 (lv_topi (fun zi6235 ea6236 => ?_))
          have bd6237 : (1 : Int) ≤ zi6235.toInt ∧ zi6235.toInt ≤ 3067 := b_iadd ea6236 bd5789 bc_1 (by decide) (by decide) (by decide) (by decide)
          have qe6238 : zi6235.toInt = (zi2891 : Int32).toInt + (1 : Int32).toInt := e_iadd ea6236 bd5789 bc_1 (by decide) (by decide)
          have qe6239 : zi6235.toInt = zi2891.toInt + 1 := by have ha : (1 : Int32).toInt = 1 := (by decide); rw [ha] at qe6238; exact qe6238
          refine va_sld hx hb hX hbl hbA hS (vp_bv (by omega) (by omega)) dL_law_443 (lv_topi (fun zi6240 ez6241 => ?_))
          refine lv_aload_n hx hb dL_law_444 rfl (lv_at hl 0 rfl) ?_
          refine lv_iload_n hx hb dL_law_445 rfl (lv_at hl 3 rfl) ?_
          refine lv_iconst (v := 2) hx hb dL_law_446 (by decide) ?_
          refine lv_iadd hx hb dL_law_447 (lv_topi (fun zi6242 ea6243 => ?_))
          have bd6244 : (2 : Int) ≤ zi6242.toInt ∧ zi6242.toInt ≤ 3068 := b_iadd ea6243 bd5789 bc_2 (by decide) (by decide) (by decide) (by decide)
          have qe6245 : zi6242.toInt = (zi2891 : Int32).toInt + (2 : Int32).toInt := e_iadd ea6243 bd5789 bc_2 (by decide) (by decide)
          have qe6246 : zi6242.toInt = zi2891.toInt + 2 := by have ha : (2 : Int32).toInt = 2 := (by decide); rw [ha] at qe6245; exact qe6245
          refine va_sld hx hb hX hbl hbA hS (vp_bv (by omega) (by omega)) dL_law_448 (lv_topi (fun zi6247 ez6248 => ?_))
          refine kq_i hw hS hA (va_runV (As := [.int zi6240, .int zi6247]) (rest := []) ⟨hx, hb, hml, hown, hT⟩ (cX12_hearing_0 l G cy ev K ln Ls hW _ hp2892 ok2893 qa900 zi6240 zi6247 kd2896) (cwV 2 hT (good_V tb_1793 tb_1790 tb_1791 tb_1792 tb_122) rfl rfl rfl (by decide +kernel) ⟨Nat.le_of_ble_eq_true rfl, Nat.le_of_ble_eq_true rfl⟩) (pool_preV (ci := 12) hK hE hS hA hw hW kd2896 (by decide) rfl) rfl rfl hl.1 rfl (lv_room (Nat.le_of_ble_eq_true rfl)) dL_law_449 ⟨(show (400 + (gn - g0)) + 0 ≤ 600000 from by omega), (show (100000 + 14 * (gn - g0)) + 0 ≤ 7302250 from by omega)⟩) (fun zi6253 hp6249 H locs hq6252 hw hS => ?_)
          obtain ⟨ok6250, F6251⟩ := hq6252
          have hw : PW G cy K ln Ls A hp6249 H := hw
          refine lv_pop hx hb dL_law_452 rfl ?_
          refine lv_goto (tgt := 1044) hx hb dL_law_453 (by decide) ?_
          obtain ⟨zi6254, ea6255⟩ : ∃ z : Int32, z = zi2891 + 6 := ⟨_, rfl⟩
          have bd6256 : (6 : Int) ≤ zi6254.toInt ∧ zi6254.toInt ≤ 3072 := b_iadd ea6255 bd5789 bc_6 (by decide) (by decide) (by decide) (by decide)
          have qe6257 : zi6254.toInt = (zi2891 : Int32).toInt + (6 : Int32).toInt := e_iadd ea6255 bd5789 bc_6 (by decide) (by decide)
          have qe6258 : zi6254.toInt = zi2891.toInt + 6 := by have ha : (6 : Int32).toInt = 6 := (by decide); rw [ha] at qe6257; exact qe6257
          refine lv_iinc (v := zi6254) (lv' := [(3, .int zi6254), (0, .ref b), (1, .ref qa901), (2, .ref qa900)]) hx hb dL_law_1044 hl (k := 3) rfl ea6255.symm (by decide) rfl (fun ls hl => ?_)
          refine lv_goto (tgt := 18) hx hb dL_law_1047 (by decide) ?_
          have pd6259 : NSx K ln hp6249 gn := NSx_fr ok2893  (show Fr [93000] K hp2892 hp6249 from (Fr.tr (Fr.rf) F6251 (by decide))) (by decide) pd2894
          have pd6260 : LW hp6249 qa900 := LW_fr ok2893 kd2896 (show Fr [93000] K hp2892 hp6249 from (Fr.tr (Fr.rf) F6251 (by decide))) (by decide) pd2895
          exact ih5774 K ln Ls gn hp6249 zi6254 _ _ ls (by have := hm5776; have := qe6258; omega) hW gex (FrX.tr gfx gex (FrX.of (show Fr [93000] K hp2892 hp6249 from (Fr.tr (Fr.rf) F6251 (by decide)))) (by decide +kernel)) ok6250 pd6259 (by omega) pd6260 kd2896 kd2897 (b_wid2 bd6256 (by decide) (by decide)) (lv_sub hl [1, 2, 3, 0] rfl) hw hS
        by_cases cn5807 : zi5794 = 10
        · skip
          refine lv_tableIn (tgt := 456) hx hb dL_law_33 (by rw [cn5807]; decide) (by rw [cn5807]; decide) (by rw [cn5807]; rfl) (by decide) ?_
          have bd6261 : (10 : Int) ≤ zi5794.toInt ∧ zi5794.toInt ≤ 10 := r_eq_x cn5807 bd5796 bc_10 (by decide) (by decide)
          refine lv_aload_n hx hb dL_law_456 rfl (lv_at hl 1 rfl) ?_
          refine lv_aload_n hx hb dL_law_457 rfl (lv_at hl 0 rfl) ?_
          refine lv_iload_n hx hb dL_law_458 rfl (lv_at hl 3 rfl) ?_
          refine lv_iconst (v := 1) hx hb dL_law_459 (by decide) ?_
          refine lv_iadd hx hb dL_law_460 (lv_topi (fun zi6262 ea6263 => ?_))
          have bd6264 : (1 : Int) ≤ zi6262.toInt ∧ zi6262.toInt ≤ 3067 := b_iadd ea6263 bd5789 bc_1 (by decide) (by decide) (by decide) (by decide)
          have qe6265 : zi6262.toInt = (zi2891 : Int32).toInt + (1 : Int32).toInt := e_iadd ea6263 bd5789 bc_1 (by decide) (by decide)
          have qe6266 : zi6262.toInt = zi2891.toInt + 1 := by have ha : (1 : Int32).toInt = 1 := (by decide); rw [ha] at qe6265; exact qe6265
          refine va_sld hx hb hX hbl hbA hS (vp_bv (by omega) (by omega)) dL_law_461 (lv_topi (fun zi6267 ez6268 => ?_))
          refine kq_i hw hS hA (va_runV (As := [.int zi6267]) (rest := []) ⟨hx, hb, hml, hown, hT⟩ (cX11_say_0 l G cy ev K ln Ls hW _ hp2892 ok2893 qa901 zi6267 kd2897) (cwV 1 hT (good_V tb_1039 tb_1036 tb_1037 tb_1038 tb_105) rfl rfl rfl (by decide +kernel) ⟨Nat.le_of_ble_eq_true rfl, Nat.le_of_ble_eq_true rfl⟩) (pool_preV (ci := 11) hK hE hS hA hw hW kd2897 (by decide) rfl) rfl rfl hl.1 rfl (lv_room (Nat.le_of_ble_eq_true rfl)) dL_law_462 ⟨(show (400 + (gn - g0)) + 0 ≤ 600000 from by omega), (show (100000 + 14 * (gn - g0)) + 0 ≤ 7302250 from by omega)⟩) (fun zi6273 hp6269 H locs hq6272 hw hS => ?_)
          obtain ⟨ok6270, F6271, bd6274⟩ := hq6272
          have hw : PW G cy K ln Ls A hp6269 H := hw
          refine lv_pop hx hb dL_law_465 rfl ?_
          refine lv_aload_n hx hb dL_law_466 rfl (lv_at hl 2 rfl) ?_
          refine lv_aload_n hx hb dL_law_467 rfl (lv_at hl 0 rfl) ?_
          refine lv_iload_n hx hb dL_law_468 rfl (lv_at hl 3 rfl) ?_
          refine lv_iconst (v := 1) hx hb dL_law_469 (by decide) ?_
          refine lv_iadd hx hb dL_law_470 (lv_topi (fun zi6275 ea6276 => ?_))
          have bd6277 : (1 : Int) ≤ zi6275.toInt ∧ zi6275.toInt ≤ 3067 := b_iadd ea6276 bd5789 bc_1 (by decide) (by decide) (by decide) (by decide)
          have qe6278 : zi6275.toInt = (zi2891 : Int32).toInt + (1 : Int32).toInt := e_iadd ea6276 bd5789 bc_1 (by decide) (by decide)
          have qe6279 : zi6275.toInt = zi2891.toInt + 1 := by have ha : (1 : Int32).toInt = 1 := (by decide); rw [ha] at qe6278; exact qe6278
          refine va_sld hx hb hX hbl hbA hS (vp_bv (by omega) (by omega)) dL_law_471 (lv_topi (fun zi6280 ez6281 => ?_))
          have pd6282 : LW hp6269 qa900 := LW_fr ok2893 kd2896 (show Fr [1005, 3003, 3004, 5005, 8000, 8001, 8002, 8003, 8004, 8005, 8006, 8008, 12008, 12009, 27000, 40000, 41000, 42000] K hp2892 hp6269 from (Fr.tr (Fr.rf) F6271 (by decide))) (by decide) pd2895
          refine kq_i hw hS hA (va_runV (As := [.int zi6280]) (rest := []) ⟨hx, hb, hml, hown, hT⟩ (cX12_say_0 l G cy ev K ln Ls hW _ hp6269 ok6270 qa900 zi6280 kd2896 pd6282) (cwV 1 hT (good_V tb_1805 tb_1802 tb_1803 tb_1804 tb_122) rfl rfl rfl (by decide +kernel) ⟨Nat.le_of_ble_eq_true rfl, Nat.le_of_ble_eq_true rfl⟩) (pool_preV (ci := 12) hK hE hS hA hw hW kd2896 (by decide) rfl) rfl rfl hl.1 rfl (lv_room (Nat.le_of_ble_eq_true rfl)) dL_law_472 ⟨(show (400 + (gn - g0)) + 0 ≤ 600000 from by omega), (show (100000 + 14 * (gn - g0)) + 0 ≤ 7302250 from by omega)⟩) (fun zi6287 hp6283 H locs hq6286 hw hS => ?_)
          obtain ⟨ok6284, F6285, bd6288⟩ := hq6286
          have hw : PW G cy K ln Ls A hp6283 H := hw
          refine lv_pop hx hb dL_law_475 rfl ?_
          refine lv_goto (tgt := 1044) hx hb dL_law_476 (by decide) ?_
          obtain ⟨zi6289, ea6290⟩ : ∃ z : Int32, z = zi2891 + 6 := ⟨_, rfl⟩
          have bd6291 : (6 : Int) ≤ zi6289.toInt ∧ zi6289.toInt ≤ 3072 := b_iadd ea6290 bd5789 bc_6 (by decide) (by decide) (by decide) (by decide)
          have qe6292 : zi6289.toInt = (zi2891 : Int32).toInt + (6 : Int32).toInt := e_iadd ea6290 bd5789 bc_6 (by decide) (by decide)
          have qe6293 : zi6289.toInt = zi2891.toInt + 6 := by have ha : (6 : Int32).toInt = 6 := (by decide); rw [ha] at qe6292; exact qe6292
          refine lv_iinc (v := zi6289) (lv' := [(3, .int zi6289), (0, .ref b), (1, .ref qa901), (2, .ref qa900)]) hx hb dL_law_1044 hl (k := 3) rfl ea6290.symm (by decide) rfl (fun ls hl => ?_)
          refine lv_goto (tgt := 18) hx hb dL_law_1047 (by decide) ?_
          have pd6294 : NSx K ln hp6283 gn := NSx_fr ok2893  (show Fr [1005, 3003, 3004, 5005, 8000, 8001, 8002, 8003, 8004, 8005, 8006, 8008, 12008, 12009, 13048, 13051, 13053, 27000, 40000, 41000, 42000, 90000, 91000, 92000, 93000, 94000] K hp2892 hp6283 from (Fr.tr (Fr.tr (Fr.rf) F6271 (by decide)) F6285 (by decide))) (by decide) pd2894
          have pd6295 : LW hp6283 qa900 := LW_fr ok6270 kd2896 (show Fr [13048, 13051, 13053, 90000, 91000, 92000, 93000, 94000] K hp6269 hp6283 from (Fr.tr (Fr.rf) F6285 (by decide))) (by decide) pd6282
          exact ih5774 K ln Ls gn hp6283 zi6289 _ _ ls (by have := hm5776; have := qe6293; omega) hW gex (FrX.tr gfx gex (FrX.of (show Fr [1005, 3003, 3004, 5005, 8000, 8001, 8002, 8003, 8004, 8005, 8006, 8008, 12008, 12009, 13048, 13051, 13053, 27000, 40000, 41000, 42000, 90000, 91000, 92000, 93000, 94000] K hp2892 hp6283 from (Fr.tr (Fr.tr (Fr.rf) F6271 (by decide)) F6285 (by decide)))) (by decide +kernel)) ok6284 pd6294 (by omega) pd6295 kd2896 kd2897 (b_wid2 bd6291 (by decide) (by decide)) (lv_sub hl [1, 2, 3, 0] rfl) hw hS
        by_cases cn5808 : zi5794 = 11
        · skip
          refine lv_tableIn (tgt := 479) hx hb dL_law_33 (by rw [cn5808]; decide) (by rw [cn5808]; decide) (by rw [cn5808]; rfl) (by decide) ?_
          have bd6296 : (11 : Int) ≤ zi5794.toInt ∧ zi5794.toInt ≤ 11 := r_eq_x cn5808 bd5796 bc_11 (by decide) (by decide)
          refine lv_aload_n hx hb dL_law_479 rfl (lv_at hl 1 rfl) ?_
          refine lv_aload_n hx hb dL_law_480 rfl (lv_at hl 0 rfl) ?_
          refine lv_iload_n hx hb dL_law_481 rfl (lv_at hl 3 rfl) ?_
          refine lv_iconst (v := 1) hx hb dL_law_482 (by decide) ?_
          refine lv_iadd hx hb dL_law_483 (lv_topi (fun zi6297 ea6298 => ?_))
          have bd6299 : (1 : Int) ≤ zi6297.toInt ∧ zi6297.toInt ≤ 3067 := b_iadd ea6298 bd5789 bc_1 (by decide) (by decide) (by decide) (by decide)
          have qe6300 : zi6297.toInt = (zi2891 : Int32).toInt + (1 : Int32).toInt := e_iadd ea6298 bd5789 bc_1 (by decide) (by decide)
          have qe6301 : zi6297.toInt = zi2891.toInt + 1 := by have ha : (1 : Int32).toInt = 1 := (by decide); rw [ha] at qe6300; exact qe6300
          refine va_sld hx hb hX hbl hbA hS (vp_bv (by omega) (by omega)) dL_law_484 (lv_topi (fun zi6302 ez6303 => ?_))
          refine kq_i hw hS hA (va_runV (As := [.int zi6302]) (rest := []) ⟨hx, hb, hml, hown, hT⟩ (cX11_look_0 l G cy ev K ln Ls hW _ hp2892 ok2893 qa901 zi6302 kd2897) (cwV 1 hT (good_V tb_1102 tb_1099 tb_1100 tb_1101 tb_105) rfl rfl rfl (by decide +kernel) ⟨Nat.le_of_ble_eq_true rfl, Nat.le_of_ble_eq_true rfl⟩) (pool_preV (ci := 11) hK hE hS hA hw hW kd2897 (by decide) rfl) rfl rfl hl.1 rfl (lv_room (Nat.le_of_ble_eq_true rfl)) dL_law_485 ⟨(show (400 + (gn - g0)) + 0 ≤ 600000 from by omega), (show (100000 + 14 * (gn - g0)) + 0 ≤ 7302250 from by omega)⟩) (fun zi6308 hp6304 H locs hq6307 hw hS => ?_)
          obtain ⟨ok6305, F6306⟩ := hq6307
          have hw : PW G cy K ln Ls A hp6304 H := hw
          refine lv_pop hx hb dL_law_488 rfl ?_
          refine lv_aload_n hx hb dL_law_489 rfl (lv_at hl 2 rfl) ?_
          refine lv_aload_n hx hb dL_law_490 rfl (lv_at hl 0 rfl) ?_
          refine lv_iload_n hx hb dL_law_491 rfl (lv_at hl 3 rfl) ?_
          refine lv_iconst (v := 1) hx hb dL_law_492 (by decide) ?_
          refine lv_iadd hx hb dL_law_493 (lv_topi (fun zi6309 ea6310 => ?_))
          have bd6311 : (1 : Int) ≤ zi6309.toInt ∧ zi6309.toInt ≤ 3067 := b_iadd ea6310 bd5789 bc_1 (by decide) (by decide) (by decide) (by decide)
          have qe6312 : zi6309.toInt = (zi2891 : Int32).toInt + (1 : Int32).toInt := e_iadd ea6310 bd5789 bc_1 (by decide) (by decide)
          have qe6313 : zi6309.toInt = zi2891.toInt + 1 := by have ha : (1 : Int32).toInt = 1 := (by decide); rw [ha] at qe6312; exact qe6312
          refine va_sld hx hb hX hbl hbA hS (vp_bv (by omega) (by omega)) dL_law_494 (lv_topi (fun zi6314 ez6315 => ?_))
          have pd6316 : LW hp6304 qa900 := LW_fr ok2893 kd2896 (show Fr [1005, 3003, 3004, 5005, 8000, 8001, 8002, 8003, 8004, 8005, 8006, 8008, 12008, 12009, 27000, 40000, 41000, 42000] K hp2892 hp6304 from (Fr.tr (Fr.rf) F6306 (by decide))) (by decide) pd2895
          refine kq_i hw hS hA (va_runV (As := [.int zi6314]) (rest := []) ⟨hx, hb, hml, hown, hT⟩ (cX12_look_0 l G cy ev K ln Ls hW _ hp6304 ok6305 qa900 zi6314 kd2896 pd6316) (cwV 1 hT (good_V tb_1839 tb_1836 tb_1837 tb_1838 tb_122) rfl rfl rfl (by decide +kernel) ⟨Nat.le_of_ble_eq_true rfl, Nat.le_of_ble_eq_true rfl⟩) (pool_preV (ci := 12) hK hE hS hA hw hW kd2896 (by decide) rfl) rfl rfl hl.1 rfl (lv_room (Nat.le_of_ble_eq_true rfl)) dL_law_495 ⟨(show (400 + (gn - g0)) + 0 ≤ 600000 from by omega), (show (100000 + 14 * (gn - g0)) + 0 ≤ 7302250 from by omega)⟩) (fun zi6321 hp6317 H locs hq6320 hw hS => ?_)
          obtain ⟨ok6318, F6319⟩ := hq6320
          have hw : PW G cy K ln Ls A hp6317 H := hw
          refine lv_pop hx hb dL_law_498 rfl ?_
          refine lv_goto (tgt := 1044) hx hb dL_law_499 (by decide) ?_
          obtain ⟨zi6322, ea6323⟩ : ∃ z : Int32, z = zi2891 + 6 := ⟨_, rfl⟩
          have bd6324 : (6 : Int) ≤ zi6322.toInt ∧ zi6322.toInt ≤ 3072 := b_iadd ea6323 bd5789 bc_6 (by decide) (by decide) (by decide) (by decide)
          have qe6325 : zi6322.toInt = (zi2891 : Int32).toInt + (6 : Int32).toInt := e_iadd ea6323 bd5789 bc_6 (by decide) (by decide)
          have qe6326 : zi6322.toInt = zi2891.toInt + 6 := by have ha : (6 : Int32).toInt = 6 := (by decide); rw [ha] at qe6325; exact qe6325
          refine lv_iinc (v := zi6322) (lv' := [(3, .int zi6322), (0, .ref b), (1, .ref qa901), (2, .ref qa900)]) hx hb dL_law_1044 hl (k := 3) rfl ea6323.symm (by decide) rfl (fun ls hl => ?_)
          refine lv_goto (tgt := 18) hx hb dL_law_1047 (by decide) ?_
          have pd6327 : NSx K ln hp6317 gn := NSx_fr ok2893  (show Fr [1005, 3003, 3004, 5005, 8000, 8001, 8002, 8003, 8004, 8005, 8006, 8008, 12008, 12009, 13048, 13051, 13053, 27000, 40000, 41000, 42000, 90000, 91000, 92000, 93000, 94000] K hp2892 hp6317 from (Fr.tr (Fr.tr (Fr.rf) F6306 (by decide)) F6319 (by decide))) (by decide) pd2894
          have pd6328 : LW hp6317 qa900 := LW_fr ok6305 kd2896 (show Fr [13048, 13051, 13053, 90000, 91000, 92000, 93000, 94000] K hp6304 hp6317 from (Fr.tr (Fr.rf) F6319 (by decide))) (by decide) pd6316
          exact ih5774 K ln Ls gn hp6317 zi6322 _ _ ls (by have := hm5776; have := qe6326; omega) hW gex (FrX.tr gfx gex (FrX.of (show Fr [1005, 3003, 3004, 5005, 8000, 8001, 8002, 8003, 8004, 8005, 8006, 8008, 12008, 12009, 13048, 13051, 13053, 27000, 40000, 41000, 42000, 90000, 91000, 92000, 93000, 94000] K hp2892 hp6317 from (Fr.tr (Fr.tr (Fr.rf) F6306 (by decide)) F6319 (by decide)))) (by decide +kernel)) ok6318 pd6327 (by omega) pd6328 kd2896 kd2897 (b_wid2 bd6324 (by decide) (by decide)) (lv_sub hl [1, 2, 3, 0] rfl) hw hS
        by_cases cn5809 : zi5794 = 12
        · skip
          refine lv_tableIn (tgt := 502) hx hb dL_law_33 (by rw [cn5809]; decide) (by rw [cn5809]; decide) (by rw [cn5809]; rfl) (by decide) ?_
          have bd6329 : (12 : Int) ≤ zi5794.toInt ∧ zi5794.toInt ≤ 12 := r_eq_x cn5809 bd5796 bc_12 (by decide) (by decide)
          refine lv_aload_n hx hb dL_law_502 rfl (lv_at hl 1 rfl) ?_
          refine lv_aload_n hx hb dL_law_503 rfl (lv_at hl 0 rfl) ?_
          refine lv_iload_n hx hb dL_law_504 rfl (lv_at hl 3 rfl) ?_
          refine lv_iconst (v := 1) hx hb dL_law_505 (by decide) ?_
          refine lv_iadd hx hb dL_law_506 (lv_topi (fun zi6330 ea6331 => ?_))
          have bd6332 : (1 : Int) ≤ zi6330.toInt ∧ zi6330.toInt ≤ 3067 := b_iadd ea6331 bd5789 bc_1 (by decide) (by decide) (by decide) (by decide)
          have qe6333 : zi6330.toInt = (zi2891 : Int32).toInt + (1 : Int32).toInt := e_iadd ea6331 bd5789 bc_1 (by decide) (by decide)
          have qe6334 : zi6330.toInt = zi2891.toInt + 1 := by have ha : (1 : Int32).toInt = 1 := (by decide); rw [ha] at qe6333; exact qe6333
          refine va_sld hx hb hX hbl hbA hS (vp_bv (by omega) (by omega)) dL_law_507 (lv_topi (fun zi6335 ez6336 => ?_))
          refine kq_i hw hS hA (va_runV (As := [.int zi6335]) (rest := []) ⟨hx, hb, hml, hown, hT⟩ (cX11_pause_0 l G cy ev K ln Ls hW _ hp2892 ok2893 qa901 zi6335 kd2897) (cwV 1 hT (good_V tb_1110 tb_1107 tb_1108 tb_1109 tb_105) rfl rfl rfl (by decide +kernel) ⟨Nat.le_of_ble_eq_true rfl, Nat.le_of_ble_eq_true rfl⟩) (pool_preV (ci := 11) hK hE hS hA hw hW kd2897 (by decide) rfl) rfl rfl hl.1 rfl (lv_room (Nat.le_of_ble_eq_true rfl)) dL_law_508 ⟨(show (400 + (gn - g0)) + 0 ≤ 600000 from by omega), (show (100000 + 14 * (gn - g0)) + 0 ≤ 7302250 from by omega)⟩) (fun zi6341 hp6337 H locs hq6340 hw hS => ?_)
          obtain ⟨ok6338, F6339⟩ := hq6340
          have hw : PW G cy K ln Ls A hp6337 H := hw
          refine lv_pop hx hb dL_law_511 rfl ?_
          refine lv_aload_n hx hb dL_law_512 rfl (lv_at hl 2 rfl) ?_
          refine lv_aload_n hx hb dL_law_513 rfl (lv_at hl 0 rfl) ?_
          refine lv_iload_n hx hb dL_law_514 rfl (lv_at hl 3 rfl) ?_
          refine lv_iconst (v := 1) hx hb dL_law_515 (by decide) ?_
          refine lv_iadd hx hb dL_law_516 (lv_topi (fun zi6342 ea6343 => ?_))
          have bd6344 : (1 : Int) ≤ zi6342.toInt ∧ zi6342.toInt ≤ 3067 := b_iadd ea6343 bd5789 bc_1 (by decide) (by decide) (by decide) (by decide)
          have qe6345 : zi6342.toInt = (zi2891 : Int32).toInt + (1 : Int32).toInt := e_iadd ea6343 bd5789 bc_1 (by decide) (by decide)
          have qe6346 : zi6342.toInt = zi2891.toInt + 1 := by have ha : (1 : Int32).toInt = 1 := (by decide); rw [ha] at qe6345; exact qe6345
          refine va_sld hx hb hX hbl hbA hS (vp_bv (by omega) (by omega)) dL_law_517 (lv_topi (fun zi6347 ez6348 => ?_))
          refine kq_i hw hS hA (va_runV (As := [.int zi6347]) (rest := []) ⟨hx, hb, hml, hown, hT⟩ (cX12_pause_0 l G cy ev K ln Ls hW _ hp6337 ok6338 qa900 zi6347 kd2896) (cwV 1 hT (good_V tb_1843 tb_1840 tb_1841 tb_1842 tb_122) rfl rfl rfl (by decide +kernel) ⟨Nat.le_of_ble_eq_true rfl, Nat.le_of_ble_eq_true rfl⟩) (pool_preV (ci := 12) hK hE hS hA hw hW kd2896 (by decide) rfl) rfl rfl hl.1 rfl (lv_room (Nat.le_of_ble_eq_true rfl)) dL_law_518 ⟨(show (400 + (gn - g0)) + 0 ≤ 600000 from by omega), (show (100000 + 14 * (gn - g0)) + 0 ≤ 7302250 from by omega)⟩) (fun zi6353 hp6349 H locs hq6352 hw hS => ?_)
          obtain ⟨ok6350, F6351⟩ := hq6352
          have hw : PW G cy K ln Ls A hp6349 H := hw
          refine lv_pop hx hb dL_law_521 rfl ?_
          refine lv_goto (tgt := 1044) hx hb dL_law_522 (by decide) ?_
          obtain ⟨zi6354, ea6355⟩ : ∃ z : Int32, z = zi2891 + 6 := ⟨_, rfl⟩
          have bd6356 : (6 : Int) ≤ zi6354.toInt ∧ zi6354.toInt ≤ 3072 := b_iadd ea6355 bd5789 bc_6 (by decide) (by decide) (by decide) (by decide)
          have qe6357 : zi6354.toInt = (zi2891 : Int32).toInt + (6 : Int32).toInt := e_iadd ea6355 bd5789 bc_6 (by decide) (by decide)
          have qe6358 : zi6354.toInt = zi2891.toInt + 6 := by have ha : (6 : Int32).toInt = 6 := (by decide); rw [ha] at qe6357; exact qe6357
          refine lv_iinc (v := zi6354) (lv' := [(3, .int zi6354), (0, .ref b), (1, .ref qa901), (2, .ref qa900)]) hx hb dL_law_1044 hl (k := 3) rfl ea6355.symm (by decide) rfl (fun ls hl => ?_)
          refine lv_goto (tgt := 18) hx hb dL_law_1047 (by decide) ?_
          have pd6359 : NSx K ln hp6349 gn := NSx_fr ok2893  (show Fr [1005, 5005, 8000, 8001, 8002, 8003, 8004, 8005, 8006, 8008, 12008, 12009, 13051, 13053, 40000, 41000, 42000, 92000, 93000, 94000] K hp2892 hp6349 from (Fr.tr (Fr.tr (Fr.rf) F6339 (by decide)) F6351 (by decide))) (by decide) pd2894
          have pd6360 : LW hp6349 qa900 := LW_fr ok2893 kd2896 (show Fr [1005, 5005, 8000, 8001, 8002, 8003, 8004, 8005, 8006, 8008, 12008, 12009, 13051, 13053, 40000, 41000, 42000, 92000, 93000, 94000] K hp2892 hp6349 from (Fr.tr (Fr.tr (Fr.rf) F6339 (by decide)) F6351 (by decide))) (by decide) pd2895
          exact ih5774 K ln Ls gn hp6349 zi6354 _ _ ls (by have := hm5776; have := qe6358; omega) hW gex (FrX.tr gfx gex (FrX.of (show Fr [1005, 5005, 8000, 8001, 8002, 8003, 8004, 8005, 8006, 8008, 12008, 12009, 13051, 13053, 40000, 41000, 42000, 92000, 93000, 94000] K hp2892 hp6349 from (Fr.tr (Fr.tr (Fr.rf) F6339 (by decide)) F6351 (by decide)))) (by decide +kernel)) ok6350 pd6359 (by omega) pd6360 kd2896 kd2897 (b_wid2 bd6356 (by decide) (by decide)) (lv_sub hl [1, 2, 3, 0] rfl) hw hS
        by_cases cn5810 : zi5794 = 13
        · skip
          refine lv_tableIn (tgt := 525) hx hb dL_law_33 (by rw [cn5810]; decide) (by rw [cn5810]; decide) (by rw [cn5810]; rfl) (by decide) ?_
          have bd6361 : (13 : Int) ≤ zi5794.toInt ∧ zi5794.toInt ≤ 13 := r_eq_x cn5810 bd5796 bc_13 (by decide) (by decide)
          refine lv_aload_n hx hb dL_law_525 rfl (lv_at hl 1 rfl) ?_
          refine kq_i hw hS hA (va_runV (As := []) (rest := []) ⟨hx, hb, hml, hown, hT⟩ (cX11_undo_0 l G cy ev K ln Ls hW _ hp2892 ok2893 qa901 kd2897) (cwV 0 hT (good_V tb_1115 tb_1112 tb_1113 tb_1114 tb_105) rfl rfl rfl (by decide +kernel) ⟨Nat.le_of_ble_eq_true rfl, Nat.le_of_ble_eq_true rfl⟩) (pool_preV (ci := 11) hK hE hS hA hw hW kd2897 (by decide) rfl) rfl rfl hl.1 rfl (lv_room (Nat.le_of_ble_eq_true rfl)) dL_law_526 ⟨(show (400 + (gn - g0)) + 0 ≤ 600000 from by omega), (show (100000 + 14 * (gn - g0)) + 0 ≤ 7302250 from by omega)⟩) (fun zi6366 hp6362 H locs hq6365 hw hS => ?_)
          obtain ⟨ok6363, F6364, bd6367⟩ := hq6365
          have hw : PW G cy K ln Ls A hp6362 H := hw
          refine lv_pop hx hb dL_law_529 rfl ?_
          refine lv_aload_n hx hb dL_law_530 rfl (lv_at hl 2 rfl) ?_
          refine kq_i hw hS hA (va_runV (As := []) (rest := []) ⟨hx, hb, hml, hown, hT⟩ (cX12_undo_0 l G cy ev K ln Ls hW _ hp6362 ok6363 qa900 kd2896) (cwV 0 hT (good_V tb_1847 tb_1844 tb_1845 tb_1846 tb_122) rfl rfl rfl (by decide +kernel) ⟨Nat.le_of_ble_eq_true rfl, Nat.le_of_ble_eq_true rfl⟩) (pool_preV (ci := 12) hK hE hS hA hw hW kd2896 (by decide) rfl) rfl rfl hl.1 rfl (lv_room (Nat.le_of_ble_eq_true rfl)) dL_law_531 ⟨(show (400 + (gn - g0)) + 0 ≤ 600000 from by omega), (show (100000 + 14 * (gn - g0)) + 0 ≤ 7302250 from by omega)⟩) (fun zi6372 hp6368 H locs hq6371 hw hS => ?_)
          obtain ⟨ok6369, F6370, bd6373, ⟨zi6374, eq6375, bd6376⟩, hc6377⟩ := hq6371
          have hw : PW G cy K ln Ls A hp6368 H := hw
          refine lv_pop hx hb dL_law_534 rfl ?_
          refine lv_goto (tgt := 1044) hx hb dL_law_535 (by decide) ?_
          obtain ⟨zi6378, ea6379⟩ : ∃ z : Int32, z = zi2891 + 6 := ⟨_, rfl⟩
          have bd6380 : (6 : Int) ≤ zi6378.toInt ∧ zi6378.toInt ≤ 3072 := b_iadd ea6379 bd5789 bc_6 (by decide) (by decide) (by decide) (by decide)
          have qe6381 : zi6378.toInt = (zi2891 : Int32).toInt + (6 : Int32).toInt := e_iadd ea6379 bd5789 bc_6 (by decide) (by decide)
          have qe6382 : zi6378.toInt = zi2891.toInt + 6 := by have ha : (6 : Int32).toInt = 6 := (by decide); rw [ha] at qe6381; exact qe6381
          refine lv_iinc (v := zi6378) (lv' := [(3, .int zi6378), (0, .ref b), (1, .ref qa901), (2, .ref qa900)]) hx hb dL_law_1044 hl (k := 3) rfl ea6379.symm (by decide) rfl (fun ls hl => ?_)
          refine lv_goto (tgt := 18) hx hb dL_law_1047 (by decide) ?_
          have pd6383 : NSx K ln hp6368 gn := NSx_fr ok2893  (show Fr [1005, 5005, 8000, 8001, 8002, 8003, 8004, 8005, 12008, 12009, 13053, 40000, 41000, 42000, 92000] K hp2892 hp6368 from (Fr.tr (Fr.tr (Fr.rf) F6364 (by decide)) F6370 (by decide))) (by decide) pd2894
          have pd6384 : LW hp6368 qa900 := LW_fr ok2893 kd2896 (show Fr [1005, 5005, 8000, 8001, 8002, 8003, 8004, 8005, 12008, 12009, 13053, 40000, 41000, 42000, 92000] K hp2892 hp6368 from (Fr.tr (Fr.tr (Fr.rf) F6364 (by decide)) F6370 (by decide))) (by decide) pd2895
          exact ih5774 K ln Ls gn hp6368 zi6378 _ _ ls (by have := hm5776; have := qe6382; omega) hW gex (FrX.tr gfx gex (FrX.of (show Fr [1005, 5005, 8000, 8001, 8002, 8003, 8004, 8005, 12008, 12009, 13053, 40000, 41000, 42000, 92000] K hp2892 hp6368 from (Fr.tr (Fr.tr (Fr.rf) F6364 (by decide)) F6370 (by decide)))) (by decide +kernel)) ok6369 pd6383 (by omega) pd6384 kd2896 kd2897 (b_wid2 bd6380 (by decide) (by decide)) (lv_sub hl [1, 2, 3, 0] rfl) hw hS
        by_cases cn5811 : zi5794 = 14
        · skip
          refine lv_tableIn (tgt := 538) hx hb dL_law_33 (by rw [cn5811]; decide) (by rw [cn5811]; decide) (by rw [cn5811]; rfl) (by decide) ?_
          have bd6385 : (14 : Int) ≤ zi5794.toInt ∧ zi5794.toInt ≤ 14 := r_eq_x cn5811 bd5796 bc_14 (by decide) (by decide)
          refine lv_aload_n hx hb dL_law_538 rfl (lv_at hl 1 rfl) ?_
          refine lv_aload_n hx hb dL_law_539 rfl (lv_at hl 0 rfl) ?_
          refine lv_iload_n hx hb dL_law_540 rfl (lv_at hl 3 rfl) ?_
          refine lv_iconst (v := 1) hx hb dL_law_541 (by decide) ?_
          refine lv_iadd hx hb dL_law_542 (lv_topi (fun zi6386 ea6387 => ?_))
          have bd6388 : (1 : Int) ≤ zi6386.toInt ∧ zi6386.toInt ≤ 3067 := b_iadd ea6387 bd5789 bc_1 (by decide) (by decide) (by decide) (by decide)
          have qe6389 : zi6386.toInt = (zi2891 : Int32).toInt + (1 : Int32).toInt := e_iadd ea6387 bd5789 bc_1 (by decide) (by decide)
          have qe6390 : zi6386.toInt = zi2891.toInt + 1 := by have ha : (1 : Int32).toInt = 1 := (by decide); rw [ha] at qe6389; exact qe6389
          refine va_sld hx hb hX hbl hbA hS (vp_bv (by omega) (by omega)) dL_law_543 (lv_topi (fun zi6391 ez6392 => ?_))
          refine kq_i hw hS hA (va_runV (As := [.int zi6391]) (rest := []) ⟨hx, hb, hml, hown, hT⟩ (cX11_would_0 l G cy ev K ln Ls hW _ hp2892 ok2893 qa901 zi6391 kd2897) (cwV 1 hT (good_V tb_1119 tb_1116 tb_1117 tb_1118 tb_105) rfl rfl rfl (by decide +kernel) ⟨Nat.le_of_ble_eq_true rfl, Nat.le_of_ble_eq_true rfl⟩) (pool_preV (ci := 11) hK hE hS hA hw hW kd2897 (by decide) rfl) rfl rfl hl.1 rfl (lv_room (Nat.le_of_ble_eq_true rfl)) dL_law_544 ⟨(show (400 + (gn - g0)) + 0 ≤ 600000 from by omega), (show (100000 + 14 * (gn - g0)) + 0 ≤ 7302250 from by omega)⟩) (fun zi6397 hp6393 H locs hq6396 hw hS => ?_)
          obtain ⟨ok6394, F6395⟩ := hq6396
          have hw : PW G cy K ln Ls A hp6393 H := hw
          refine lv_pop hx hb dL_law_547 rfl ?_
          refine lv_aload_n hx hb dL_law_548 rfl (lv_at hl 2 rfl) ?_
          refine lv_aload_n hx hb dL_law_549 rfl (lv_at hl 0 rfl) ?_
          refine lv_iload_n hx hb dL_law_550 rfl (lv_at hl 3 rfl) ?_
          refine lv_iconst (v := 1) hx hb dL_law_551 (by decide) ?_
          refine lv_iadd hx hb dL_law_552 (lv_topi (fun zi6398 ea6399 => ?_))
          have bd6400 : (1 : Int) ≤ zi6398.toInt ∧ zi6398.toInt ≤ 3067 := b_iadd ea6399 bd5789 bc_1 (by decide) (by decide) (by decide) (by decide)
          have qe6401 : zi6398.toInt = (zi2891 : Int32).toInt + (1 : Int32).toInt := e_iadd ea6399 bd5789 bc_1 (by decide) (by decide)
          have qe6402 : zi6398.toInt = zi2891.toInt + 1 := by have ha : (1 : Int32).toInt = 1 := (by decide); rw [ha] at qe6401; exact qe6401
          refine va_sld hx hb hX hbl hbA hS (vp_bv (by omega) (by omega)) dL_law_553 (lv_topi (fun zi6403 ez6404 => ?_))
          have pd6405 : LW hp6393 qa900 := LW_fr ok2893 kd2896 (show Fr [3003, 3004, 8000, 8001, 8002, 8003, 8004, 8005, 8006, 8008, 27000, 40000, 41000, 42000] K hp2892 hp6393 from (Fr.tr (Fr.rf) F6395 (by decide))) (by decide) pd2895
          refine kq_i hw hS hA (va_runV (As := [.int zi6403]) (rest := []) ⟨hx, hb, hml, hown, hT⟩ (cX12_would_0 l G cy ev K ln Ls hW _ hp6393 ok6394 qa900 zi6403 kd2896 pd6405) (cwV 1 hT (good_V tb_1851 tb_1848 tb_1849 tb_1850 tb_122) rfl rfl rfl (by decide +kernel) ⟨Nat.le_of_ble_eq_true rfl, Nat.le_of_ble_eq_true rfl⟩) (pool_preV (ci := 12) hK hE hS hA hw hW kd2896 (by decide) rfl) rfl rfl hl.1 rfl (lv_room (Nat.le_of_ble_eq_true rfl)) dL_law_554 ⟨(show (400 + (gn - g0)) + 0 ≤ 600000 from by omega), (show (100000 + 14 * (gn - g0)) + 0 ≤ 7302250 from by omega)⟩) (fun zi6410 hp6406 H locs hq6409 hw hS => ?_)
          obtain ⟨ok6407, F6408⟩ := hq6409
          have hw : PW G cy K ln Ls A hp6406 H := hw
          refine lv_pop hx hb dL_law_557 rfl ?_
          refine lv_goto (tgt := 1044) hx hb dL_law_558 (by decide) ?_
          obtain ⟨zi6411, ea6412⟩ : ∃ z : Int32, z = zi2891 + 6 := ⟨_, rfl⟩
          have bd6413 : (6 : Int) ≤ zi6411.toInt ∧ zi6411.toInt ≤ 3072 := b_iadd ea6412 bd5789 bc_6 (by decide) (by decide) (by decide) (by decide)
          have qe6414 : zi6411.toInt = (zi2891 : Int32).toInt + (6 : Int32).toInt := e_iadd ea6412 bd5789 bc_6 (by decide) (by decide)
          have qe6415 : zi6411.toInt = zi2891.toInt + 6 := by have ha : (6 : Int32).toInt = 6 := (by decide); rw [ha] at qe6414; exact qe6414
          refine lv_iinc (v := zi6411) (lv' := [(3, .int zi6411), (0, .ref b), (1, .ref qa901), (2, .ref qa900)]) hx hb dL_law_1044 hl (k := 3) rfl ea6412.symm (by decide) rfl (fun ls hl => ?_)
          refine lv_goto (tgt := 18) hx hb dL_law_1047 (by decide) ?_
          have pd6416 : NSx K ln hp6406 gn := NSx_fr ok2893  (show Fr [3003, 3004, 8000, 8001, 8002, 8003, 8004, 8005, 8006, 8008, 13048, 13051, 27000, 40000, 41000, 42000, 90000, 91000, 93000] K hp2892 hp6406 from (Fr.tr (Fr.tr (Fr.rf) F6395 (by decide)) F6408 (by decide))) (by decide) pd2894
          have pd6417 : LW hp6406 qa900 := LW_fr ok6394 kd2896 (show Fr [13048, 13051, 90000, 91000, 93000] K hp6393 hp6406 from (Fr.tr (Fr.rf) F6408 (by decide))) (by decide) pd6405
          exact ih5774 K ln Ls gn hp6406 zi6411 _ _ ls (by have := hm5776; have := qe6415; omega) hW gex (FrX.tr gfx gex (FrX.of (show Fr [3003, 3004, 8000, 8001, 8002, 8003, 8004, 8005, 8006, 8008, 13048, 13051, 27000, 40000, 41000, 42000, 90000, 91000, 93000] K hp2892 hp6406 from (Fr.tr (Fr.tr (Fr.rf) F6395 (by decide)) F6408 (by decide)))) (by decide +kernel)) ok6407 pd6416 (by omega) pd6417 kd2896 kd2897 (b_wid2 bd6413 (by decide) (by decide)) (lv_sub hl [1, 2, 3, 0] rfl) hw hS
        by_cases cn5812 : zi5794 = 15
        · skip
          refine lv_tableIn (tgt := 561) hx hb dL_law_33 (by rw [cn5812]; decide) (by rw [cn5812]; decide) (by rw [cn5812]; rfl) (by decide) ?_
          have bd6418 : (15 : Int) ≤ zi5794.toInt ∧ zi5794.toInt ≤ 15 := r_eq_x cn5812 bd5796 bc_15 (by decide) (by decide)
          refine lv_aload_n hx hb dL_law_561 rfl (lv_at hl 1 rfl) ?_
          refine lv_aload_n hx hb dL_law_562 rfl (lv_at hl 0 rfl) ?_
          refine lv_iload_n hx hb dL_law_563 rfl (lv_at hl 3 rfl) ?_
          refine lv_iconst (v := 1) hx hb dL_law_564 (by decide) ?_
          refine lv_iadd hx hb dL_law_565 (lv_topi (fun zi6419 ea6420 => ?_))
          have bd6421 : (1 : Int) ≤ zi6419.toInt ∧ zi6419.toInt ≤ 3067 := b_iadd ea6420 bd5789 bc_1 (by decide) (by decide) (by decide) (by decide)
          have qe6422 : zi6419.toInt = (zi2891 : Int32).toInt + (1 : Int32).toInt := e_iadd ea6420 bd5789 bc_1 (by decide) (by decide)
          have qe6423 : zi6419.toInt = zi2891.toInt + 1 := by have ha : (1 : Int32).toInt = 1 := (by decide); rw [ha] at qe6422; exact qe6422
          refine va_sld hx hb hX hbl hbA hS (vp_bv (by omega) (by omega)) dL_law_566 (lv_topi (fun zi6424 ez6425 => ?_))
          refine lv_aload_n hx hb dL_law_567 rfl (lv_at hl 0 rfl) ?_
          refine lv_iload_n hx hb dL_law_568 rfl (lv_at hl 3 rfl) ?_
          refine lv_iconst (v := 2) hx hb dL_law_569 (by decide) ?_
          refine lv_iadd hx hb dL_law_570 (lv_topi (fun zi6426 ea6427 => ?_))
          have bd6428 : (2 : Int) ≤ zi6426.toInt ∧ zi6426.toInt ≤ 3068 := b_iadd ea6427 bd5789 bc_2 (by decide) (by decide) (by decide) (by decide)
          have qe6429 : zi6426.toInt = (zi2891 : Int32).toInt + (2 : Int32).toInt := e_iadd ea6427 bd5789 bc_2 (by decide) (by decide)
          have qe6430 : zi6426.toInt = zi2891.toInt + 2 := by have ha : (2 : Int32).toInt = 2 := (by decide); rw [ha] at qe6429; exact qe6429
          refine va_sld hx hb hX hbl hbA hS (vp_bv (by omega) (by omega)) dL_law_571 (lv_topi (fun zi6431 ez6432 => ?_))
          refine lv_aload_n hx hb dL_law_572 rfl (lv_at hl 0 rfl) ?_
          refine lv_iload_n hx hb dL_law_573 rfl (lv_at hl 3 rfl) ?_
          refine lv_iconst (v := 3) hx hb dL_law_574 (by decide) ?_
          refine lv_iadd hx hb dL_law_575 (lv_topi (fun zi6433 ea6434 => ?_))
          have bd6435 : (3 : Int) ≤ zi6433.toInt ∧ zi6433.toInt ≤ 3069 := b_iadd ea6434 bd5789 bc_3 (by decide) (by decide) (by decide) (by decide)
          have qe6436 : zi6433.toInt = (zi2891 : Int32).toInt + (3 : Int32).toInt := e_iadd ea6434 bd5789 bc_3 (by decide) (by decide)
          have qe6437 : zi6433.toInt = zi2891.toInt + 3 := by have ha : (3 : Int32).toInt = 3 := (by decide); rw [ha] at qe6436; exact qe6436
          refine va_sld hx hb hX hbl hbA hS (vp_bv (by omega) (by omega)) dL_law_576 (lv_topi (fun zi6438 ez6439 => ?_))
          have gf6447 : FrX wsA K0 hp0 hp2892 := gfx
          refine kg_i hw hS hA (va_runV (As := [.int zi6424, .int zi6431, .int zi6438]) (rest := []) ⟨hx, hb, hml, hown, hT⟩ (Met.szx (cX11_ahead_0 l G cy ev K ln Ls hW _ hp2892 ok2893 qa901 zi6424 zi6431 zi6438 gn kd2897 pd2894)) (cwV 3 hT (good_V tb_1124 tb_1121 tb_1122 tb_1123 tb_105) rfl rfl rfl (by decide +kernel) ⟨Nat.le_of_ble_eq_true rfl, Nat.le_of_ble_eq_true rfl⟩) (pool_preV (ci := 11) hK hE hS hA hw hW kd2897 (by decide) rfl) rfl rfl hl.1 rfl (lv_room (Nat.le_of_ble_eq_true rfl)) dL_law_577 ⟨(show (400 + (gn - g0)) + 327680 ≤ 600000 from by omega), (show (100000 + 14 * (gn - g0)) + 4580352 ≤ 7302250 from by omega)⟩) (fun zi6448 u gn H locs hq6440 hw hS => ?_)
          obtain ⟨K, ln, Ls, hp6441⟩ := u
          obtain ⟨ex6443, hW, ok6442, fx6444, pd6445, hle6446⟩ := hq6440
          have ex6443 : EXx _ _ K ln := ex6443
          have hW : SW K ln Ls := hW
          have ok6442 : Ok K hp6441 := ok6442
          have fx6444 : FrX _ _ _ hp6441 := fx6444
          have pd6445 : NSx K ln hp6441 gn := pd6445
          have hle6446 : _ ≤ gn := hle6446
          have hw : PW G cy K ln Ls A hp6441 H := hw
          have pd6450 : LW hp6441 qa900 := LW_frX ok2893 kd2896 fx6444 pd2895
          have gfx : FrX wsA K0 hp0 hp6441 := FrX.tr gf6447 gex fx6444 (by decide +kernel)
          have gex := EXx.tr gex ex6443
          have kd6451 := EXx.kd ex6443 kd2896 (by decide)
          have kd6452 := EXx.kd ex6443 kd2897 (by decide)
          (try clear kd2896); (try clear kd2897)
          have hgn := NSx.bd pd6445
          refine W.widen (k := (400 + (gn - g0))) (n := (100000 + 14 * (gn - g0))) (by omega) (by omega) ?_
          have hga : g0 ≤ gn := by omega
          refine lv_pop hx hb dL_law_580 rfl ?_
          refine lv_aload_n hx hb dL_law_581 rfl (lv_at hl 2 rfl) ?_
          refine lv_aload_n hx hb dL_law_582 rfl (lv_at hl 0 rfl) ?_
          refine lv_iload_n hx hb dL_law_583 rfl (lv_at hl 3 rfl) ?_
          refine lv_iconst (v := 1) hx hb dL_law_584 (by decide) ?_
          refine lv_iadd hx hb dL_law_585 (lv_topi (fun zi6453 ea6454 => ?_))
          have bd6455 : (1 : Int) ≤ zi6453.toInt ∧ zi6453.toInt ≤ 3067 := b_iadd ea6454 bd5789 bc_1 (by decide) (by decide) (by decide) (by decide)
          have qe6456 : zi6453.toInt = (zi2891 : Int32).toInt + (1 : Int32).toInt := e_iadd ea6454 bd5789 bc_1 (by decide) (by decide)
          have qe6457 : zi6453.toInt = zi2891.toInt + 1 := by have ha : (1 : Int32).toInt = 1 := (by decide); rw [ha] at qe6456; exact qe6456
          refine va_sld hx hb hX hbl hbA hS (vp_bv (by omega) (by omega)) dL_law_586 (lv_topi (fun zi6458 ez6459 => ?_))
          refine lv_aload_n hx hb dL_law_587 rfl (lv_at hl 0 rfl) ?_
          refine lv_iload_n hx hb dL_law_588 rfl (lv_at hl 3 rfl) ?_
          refine lv_iconst (v := 2) hx hb dL_law_589 (by decide) ?_
          refine lv_iadd hx hb dL_law_590 (lv_topi (fun zi6460 ea6461 => ?_))
          have bd6462 : (2 : Int) ≤ zi6460.toInt ∧ zi6460.toInt ≤ 3068 := b_iadd ea6461 bd5789 bc_2 (by decide) (by decide) (by decide) (by decide)
          have qe6463 : zi6460.toInt = (zi2891 : Int32).toInt + (2 : Int32).toInt := e_iadd ea6461 bd5789 bc_2 (by decide) (by decide)
          have qe6464 : zi6460.toInt = zi2891.toInt + 2 := by have ha : (2 : Int32).toInt = 2 := (by decide); rw [ha] at qe6463; exact qe6463
          refine va_sld hx hb hX hbl hbA hS (vp_bv (by omega) (by omega)) dL_law_591 (lv_topi (fun zi6465 ez6466 => ?_))
          refine lv_aload_n hx hb dL_law_592 rfl (lv_at hl 0 rfl) ?_
          refine lv_iload_n hx hb dL_law_593 rfl (lv_at hl 3 rfl) ?_
          refine lv_iconst (v := 3) hx hb dL_law_594 (by decide) ?_
          refine lv_iadd hx hb dL_law_595 (lv_topi (fun zi6467 ea6468 => ?_))
          have bd6469 : (3 : Int) ≤ zi6467.toInt ∧ zi6467.toInt ≤ 3069 := b_iadd ea6468 bd5789 bc_3 (by decide) (by decide) (by decide) (by decide)
          have qe6470 : zi6467.toInt = (zi2891 : Int32).toInt + (3 : Int32).toInt := e_iadd ea6468 bd5789 bc_3 (by decide) (by decide)
          have qe6471 : zi6467.toInt = zi2891.toInt + 3 := by have ha : (3 : Int32).toInt = 3 := (by decide); rw [ha] at qe6470; exact qe6470
          refine va_sld hx hb hX hbl hbA hS (vp_bv (by omega) (by omega)) dL_law_596 (lv_topi (fun zi6472 ez6473 => ?_))
          refine kq_i hw hS hA (va_runV (As := [.int zi6458, .int zi6465, .int zi6472]) (rest := []) ⟨hx, hb, hml, hown, hT⟩ (cX12_ahead_0 l G cy ev K ln Ls hW _ hp6441 ok6442 qa900 zi6458 zi6465 zi6472 kd6451 pd6450) (cwV 3 hT (good_V tb_1855 tb_1852 tb_1853 tb_1854 tb_122) rfl rfl rfl (by decide +kernel) ⟨Nat.le_of_ble_eq_true rfl, Nat.le_of_ble_eq_true rfl⟩) (pool_preV (ci := 12) hK hE hS hA hw hW kd6451 (by decide) rfl) rfl rfl hl.1 rfl (lv_room (Nat.le_of_ble_eq_true rfl)) dL_law_597 ⟨(show (400 + (gn - g0)) + 0 ≤ 600000 from by omega), (show (100000 + 14 * (gn - g0)) + 0 ≤ 7302250 from by omega)⟩) (fun zi6478 hp6474 H locs hq6477 hw hS => ?_)
          obtain ⟨ok6475, F6476, bd6479⟩ := hq6477
          have hw : PW G cy K ln Ls A hp6474 H := hw
          refine lv_pop hx hb dL_law_600 rfl ?_
          refine lv_goto (tgt := 1044) hx hb dL_law_601 (by decide) ?_
          obtain ⟨zi6480, ea6481⟩ : ∃ z : Int32, z = zi2891 + 6 := ⟨_, rfl⟩
          have bd6482 : (6 : Int) ≤ zi6480.toInt ∧ zi6480.toInt ≤ 3072 := b_iadd ea6481 bd5789 bc_6 (by decide) (by decide) (by decide) (by decide)
          have qe6483 : zi6480.toInt = (zi2891 : Int32).toInt + (6 : Int32).toInt := e_iadd ea6481 bd5789 bc_6 (by decide) (by decide)
          have qe6484 : zi6480.toInt = zi2891.toInt + 6 := by have ha : (6 : Int32).toInt = 6 := (by decide); rw [ha] at qe6483; exact qe6483
          refine lv_iinc (v := zi6480) (lv' := [(3, .int zi6480), (0, .ref b), (1, .ref qa901), (2, .ref qa900)]) hx hb dL_law_1044 hl (k := 3) rfl ea6481.symm (by decide) rfl (fun ls hl => ?_)
          refine lv_goto (tgt := 18) hx hb dL_law_1047 (by decide) ?_
          have pd6485 : NSx K ln hp6474 gn := NSx_fr ok6442  (show Fr [13048, 13051, 13055, 90000, 91000, 93000, 95000] K hp6441 hp6474 from (Fr.tr (Fr.rf) F6476 (by decide))) (by decide) pd6445
          have pd6486 : LW hp6474 qa900 := LW_fr ok6442 kd6451 (show Fr [13048, 13051, 13055, 90000, 91000, 93000, 95000] K hp6441 hp6474 from (Fr.tr (Fr.rf) F6476 (by decide))) (by decide) pd6450
          exact ih5774 K ln Ls gn hp6474 zi6480 _ _ ls (by have := hm5776; have := qe6484; omega) hW gex (FrX.tr gfx gex (FrX.of (show Fr [13048, 13051, 13055, 90000, 91000, 93000, 95000] K hp6441 hp6474 from (Fr.tr (Fr.rf) F6476 (by decide)))) (by decide +kernel)) ok6475 pd6485 (by omega) pd6486 kd6451 kd6452 (b_wid2 bd6482 (by decide) (by decide)) (lv_sub hl [1, 2, 3, 0] rfl) hw hS
        by_cases cn5813 : zi5794 = 16
        · skip
          refine lv_tableIn (tgt := 604) hx hb dL_law_33 (by rw [cn5813]; decide) (by rw [cn5813]; decide) (by rw [cn5813]; rfl) (by decide) ?_
          have bd6487 : (16 : Int) ≤ zi5794.toInt ∧ zi5794.toInt ≤ 16 := r_eq_x cn5813 bd5796 bc_16 (by decide) (by decide)
          refine lv_aload_n hx hb dL_law_604 rfl (lv_at hl 1 rfl) ?_
          refine lv_aload_n hx hb dL_law_605 rfl (lv_at hl 0 rfl) ?_
          refine lv_iload_n hx hb dL_law_606 rfl (lv_at hl 3 rfl) ?_
          refine lv_iconst (v := 1) hx hb dL_law_607 (by decide) ?_
          refine lv_iadd hx hb dL_law_608 (lv_topi (fun zi6488 ea6489 => ?_))
          have bd6490 : (1 : Int) ≤ zi6488.toInt ∧ zi6488.toInt ≤ 3067 := b_iadd ea6489 bd5789 bc_1 (by decide) (by decide) (by decide) (by decide)
          have qe6491 : zi6488.toInt = (zi2891 : Int32).toInt + (1 : Int32).toInt := e_iadd ea6489 bd5789 bc_1 (by decide) (by decide)
          have qe6492 : zi6488.toInt = zi2891.toInt + 1 := by have ha : (1 : Int32).toInt = 1 := (by decide); rw [ha] at qe6491; exact qe6491
          refine va_sld hx hb hX hbl hbA hS (vp_bv (by omega) (by omega)) dL_law_609 (lv_topi (fun zi6493 ez6494 => ?_))
          refine lv_aload_n hx hb dL_law_610 rfl (lv_at hl 0 rfl) ?_
          refine lv_iload_n hx hb dL_law_611 rfl (lv_at hl 3 rfl) ?_
          refine lv_iconst (v := 2) hx hb dL_law_612 (by decide) ?_
          refine lv_iadd hx hb dL_law_613 (lv_topi (fun zi6495 ea6496 => ?_))
          have bd6497 : (2 : Int) ≤ zi6495.toInt ∧ zi6495.toInt ≤ 3068 := b_iadd ea6496 bd5789 bc_2 (by decide) (by decide) (by decide) (by decide)
          have qe6498 : zi6495.toInt = (zi2891 : Int32).toInt + (2 : Int32).toInt := e_iadd ea6496 bd5789 bc_2 (by decide) (by decide)
          have qe6499 : zi6495.toInt = zi2891.toInt + 2 := by have ha : (2 : Int32).toInt = 2 := (by decide); rw [ha] at qe6498; exact qe6498
          refine va_sld hx hb hX hbl hbA hS (vp_bv (by omega) (by omega)) dL_law_614 (lv_topi (fun zi6500 ez6501 => ?_))
          refine lv_aload_n hx hb dL_law_615 rfl (lv_at hl 0 rfl) ?_
          refine lv_iload_n hx hb dL_law_616 rfl (lv_at hl 3 rfl) ?_
          refine lv_iconst (v := 3) hx hb dL_law_617 (by decide) ?_
          refine lv_iadd hx hb dL_law_618 (lv_topi (fun zi6502 ea6503 => ?_))
          have bd6504 : (3 : Int) ≤ zi6502.toInt ∧ zi6502.toInt ≤ 3069 := b_iadd ea6503 bd5789 bc_3 (by decide) (by decide) (by decide) (by decide)
          have qe6505 : zi6502.toInt = (zi2891 : Int32).toInt + (3 : Int32).toInt := e_iadd ea6503 bd5789 bc_3 (by decide) (by decide)
          have qe6506 : zi6502.toInt = zi2891.toInt + 3 := by have ha : (3 : Int32).toInt = 3 := (by decide); rw [ha] at qe6505; exact qe6505
          refine va_sld hx hb hX hbl hbA hS (vp_bv (by omega) (by omega)) dL_law_619 (lv_topi (fun zi6507 ez6508 => ?_))
          have gf6516 : FrX wsA K0 hp0 hp2892 := gfx
          refine kg_i hw hS hA (va_runV (As := [.int zi6493, .int zi6500, .int zi6507]) (rest := []) ⟨hx, hb, hml, hown, hT⟩ (Met.szx (cX11_aheadAt_0 l G cy ev K ln Ls hW _ hp2892 ok2893 qa901 zi6493 zi6500 zi6507 gn kd2897 pd2894)) (cwV 3 hT (good_V tb_1206 tb_1203 tb_1204 tb_1205 tb_105) rfl rfl rfl (by decide +kernel) ⟨Nat.le_of_ble_eq_true rfl, Nat.le_of_ble_eq_true rfl⟩) (pool_preV (ci := 11) hK hE hS hA hw hW kd2897 (by decide) rfl) rfl rfl hl.1 rfl (lv_room (Nat.le_of_ble_eq_true rfl)) dL_law_620 ⟨(show (400 + (gn - g0)) + 327680 ≤ 600000 from by omega), (show (100000 + 14 * (gn - g0)) + 4580352 ≤ 7302250 from by omega)⟩) (fun zi6517 u gn H locs hq6509 hw hS => ?_)
          obtain ⟨K, ln, Ls, hp6510⟩ := u
          obtain ⟨ex6512, hW, ok6511, fx6513, pd6514, hle6515⟩ := hq6509
          have ex6512 : EXx _ _ K ln := ex6512
          have hW : SW K ln Ls := hW
          have ok6511 : Ok K hp6510 := ok6511
          have fx6513 : FrX _ _ _ hp6510 := fx6513
          have pd6514 : NSx K ln hp6510 gn := pd6514
          have hle6515 : _ ≤ gn := hle6515
          have hw : PW G cy K ln Ls A hp6510 H := hw
          have pd6519 : LW hp6510 qa900 := LW_frX ok2893 kd2896 fx6513 pd2895
          have gfx : FrX wsA K0 hp0 hp6510 := FrX.tr gf6516 gex fx6513 (by decide +kernel)
          have gex := EXx.tr gex ex6512
          have kd6520 := EXx.kd ex6512 kd2896 (by decide)
          have kd6521 := EXx.kd ex6512 kd2897 (by decide)
          (try clear kd2896); (try clear kd2897)
          have hgn := NSx.bd pd6514
          refine W.widen (k := (400 + (gn - g0))) (n := (100000 + 14 * (gn - g0))) (by omega) (by omega) ?_
          have hga : g0 ≤ gn := by omega
          refine lv_pop hx hb dL_law_623 rfl ?_
          refine lv_aload_n hx hb dL_law_624 rfl (lv_at hl 2 rfl) ?_
          refine lv_aload_n hx hb dL_law_625 rfl (lv_at hl 0 rfl) ?_
          refine lv_iload_n hx hb dL_law_626 rfl (lv_at hl 3 rfl) ?_
          refine lv_iconst (v := 1) hx hb dL_law_627 (by decide) ?_
          refine lv_iadd hx hb dL_law_628 (lv_topi (fun zi6522 ea6523 => ?_))
          have bd6524 : (1 : Int) ≤ zi6522.toInt ∧ zi6522.toInt ≤ 3067 := b_iadd ea6523 bd5789 bc_1 (by decide) (by decide) (by decide) (by decide)
          have qe6525 : zi6522.toInt = (zi2891 : Int32).toInt + (1 : Int32).toInt := e_iadd ea6523 bd5789 bc_1 (by decide) (by decide)
          have qe6526 : zi6522.toInt = zi2891.toInt + 1 := by have ha : (1 : Int32).toInt = 1 := (by decide); rw [ha] at qe6525; exact qe6525
          refine va_sld hx hb hX hbl hbA hS (vp_bv (by omega) (by omega)) dL_law_629 (lv_topi (fun zi6527 ez6528 => ?_))
          refine lv_aload_n hx hb dL_law_630 rfl (lv_at hl 0 rfl) ?_
          refine lv_iload_n hx hb dL_law_631 rfl (lv_at hl 3 rfl) ?_
          refine lv_iconst (v := 2) hx hb dL_law_632 (by decide) ?_
          refine lv_iadd hx hb dL_law_633 (lv_topi (fun zi6529 ea6530 => ?_))
          have bd6531 : (2 : Int) ≤ zi6529.toInt ∧ zi6529.toInt ≤ 3068 := b_iadd ea6530 bd5789 bc_2 (by decide) (by decide) (by decide) (by decide)
          have qe6532 : zi6529.toInt = (zi2891 : Int32).toInt + (2 : Int32).toInt := e_iadd ea6530 bd5789 bc_2 (by decide) (by decide)
          have qe6533 : zi6529.toInt = zi2891.toInt + 2 := by have ha : (2 : Int32).toInt = 2 := (by decide); rw [ha] at qe6532; exact qe6532
          refine va_sld hx hb hX hbl hbA hS (vp_bv (by omega) (by omega)) dL_law_634 (lv_topi (fun zi6534 ez6535 => ?_))
          refine lv_aload_n hx hb dL_law_635 rfl (lv_at hl 0 rfl) ?_
          refine lv_iload_n hx hb dL_law_636 rfl (lv_at hl 3 rfl) ?_
          refine lv_iconst (v := 3) hx hb dL_law_637 (by decide) ?_
          refine lv_iadd hx hb dL_law_638 (lv_topi (fun zi6536 ea6537 => ?_))
          have bd6538 : (3 : Int) ≤ zi6536.toInt ∧ zi6536.toInt ≤ 3069 := b_iadd ea6537 bd5789 bc_3 (by decide) (by decide) (by decide) (by decide)
          have qe6539 : zi6536.toInt = (zi2891 : Int32).toInt + (3 : Int32).toInt := e_iadd ea6537 bd5789 bc_3 (by decide) (by decide)
          have qe6540 : zi6536.toInt = zi2891.toInt + 3 := by have ha : (3 : Int32).toInt = 3 := (by decide); rw [ha] at qe6539; exact qe6539
          refine va_sld hx hb hX hbl hbA hS (vp_bv (by omega) (by omega)) dL_law_639 (lv_topi (fun zi6541 ez6542 => ?_))
          refine kq_i hw hS hA (va_runV (As := [.int zi6527, .int zi6534, .int zi6541]) (rest := []) ⟨hx, hb, hml, hown, hT⟩ (cX12_aheadAt_0 l G cy ev K ln Ls hW _ hp6510 ok6511 qa900 zi6527 zi6534 zi6541 kd6520 pd6519) (cwV 3 hT (good_V tb_1871 tb_1868 tb_1869 tb_1870 tb_122) rfl rfl rfl (by decide +kernel) ⟨Nat.le_of_ble_eq_true rfl, Nat.le_of_ble_eq_true rfl⟩) (pool_preV (ci := 12) hK hE hS hA hw hW kd6520 (by decide) rfl) rfl rfl hl.1 rfl (lv_room (Nat.le_of_ble_eq_true rfl)) dL_law_640 ⟨(show (400 + (gn - g0)) + 0 ≤ 600000 from by omega), (show (100000 + 14 * (gn - g0)) + 0 ≤ 7302250 from by omega)⟩) (fun zi6547 hp6543 H locs hq6546 hw hS => ?_)
          obtain ⟨ok6544, F6545, bd6548⟩ := hq6546
          have hw : PW G cy K ln Ls A hp6543 H := hw
          refine lv_pop hx hb dL_law_643 rfl ?_
          refine lv_goto (tgt := 1044) hx hb dL_law_644 (by decide) ?_
          obtain ⟨zi6549, ea6550⟩ : ∃ z : Int32, z = zi2891 + 6 := ⟨_, rfl⟩
          have bd6551 : (6 : Int) ≤ zi6549.toInt ∧ zi6549.toInt ≤ 3072 := b_iadd ea6550 bd5789 bc_6 (by decide) (by decide) (by decide) (by decide)
          have qe6552 : zi6549.toInt = (zi2891 : Int32).toInt + (6 : Int32).toInt := e_iadd ea6550 bd5789 bc_6 (by decide) (by decide)
          have qe6553 : zi6549.toInt = zi2891.toInt + 6 := by have ha : (6 : Int32).toInt = 6 := (by decide); rw [ha] at qe6552; exact qe6552
          refine lv_iinc (v := zi6549) (lv' := [(3, .int zi6549), (0, .ref b), (1, .ref qa901), (2, .ref qa900)]) hx hb dL_law_1044 hl (k := 3) rfl ea6550.symm (by decide) rfl (fun ls hl => ?_)
          refine lv_goto (tgt := 18) hx hb dL_law_1047 (by decide) ?_
          have pd6554 : NSx K ln hp6543 gn := NSx_fr ok6511  (show Fr [13048, 13051, 13055, 90000, 91000, 93000, 95000] K hp6510 hp6543 from (Fr.tr (Fr.rf) F6545 (by decide))) (by decide) pd6514
          have pd6555 : LW hp6543 qa900 := LW_fr ok6511 kd6520 (show Fr [13048, 13051, 13055, 90000, 91000, 93000, 95000] K hp6510 hp6543 from (Fr.tr (Fr.rf) F6545 (by decide))) (by decide) pd6519
          exact ih5774 K ln Ls gn hp6543 zi6549 _ _ ls (by have := hm5776; have := qe6553; omega) hW gex (FrX.tr gfx gex (FrX.of (show Fr [13048, 13051, 13055, 90000, 91000, 93000, 95000] K hp6510 hp6543 from (Fr.tr (Fr.rf) F6545 (by decide)))) (by decide +kernel)) ok6544 pd6554 (by omega) pd6555 kd6520 kd6521 (b_wid2 bd6551 (by decide) (by decide)) (lv_sub hl [1, 2, 3, 0] rfl) hw hS
        by_cases cn5814 : zi5794 = 17
        · skip
          refine lv_tableIn (tgt := 647) hx hb dL_law_33 (by rw [cn5814]; decide) (by rw [cn5814]; decide) (by rw [cn5814]; rfl) (by decide) ?_
          have bd6556 : (17 : Int) ≤ zi5794.toInt ∧ zi5794.toInt ≤ 17 := r_eq_x cn5814 bd5796 bc_17 (by decide) (by decide)
          refine lv_aload_n hx hb dL_law_647 rfl (lv_at hl 1 rfl) ?_
          refine lv_aload_n hx hb dL_law_648 rfl (lv_at hl 0 rfl) ?_
          refine lv_iload_n hx hb dL_law_649 rfl (lv_at hl 3 rfl) ?_
          refine lv_iconst (v := 1) hx hb dL_law_650 (by decide) ?_
          refine lv_iadd hx hb dL_law_651 (lv_topi (fun zi6557 ea6558 => ?_))
          have bd6559 : (1 : Int) ≤ zi6557.toInt ∧ zi6557.toInt ≤ 3067 := b_iadd ea6558 bd5789 bc_1 (by decide) (by decide) (by decide) (by decide)
          have qe6560 : zi6557.toInt = (zi2891 : Int32).toInt + (1 : Int32).toInt := e_iadd ea6558 bd5789 bc_1 (by decide) (by decide)
          have qe6561 : zi6557.toInt = zi2891.toInt + 1 := by have ha : (1 : Int32).toInt = 1 := (by decide); rw [ha] at qe6560; exact qe6560
          refine va_sld hx hb hX hbl hbA hS (vp_bv (by omega) (by omega)) dL_law_652 (lv_topi (fun zi6562 ez6563 => ?_))
          refine lv_aload_n hx hb dL_law_653 rfl (lv_at hl 0 rfl) ?_
          refine lv_iload_n hx hb dL_law_654 rfl (lv_at hl 3 rfl) ?_
          refine lv_iconst (v := 2) hx hb dL_law_655 (by decide) ?_
          refine lv_iadd hx hb dL_law_656 (lv_topi (fun zi6564 ea6565 => ?_))
          have bd6566 : (2 : Int) ≤ zi6564.toInt ∧ zi6564.toInt ≤ 3068 := b_iadd ea6565 bd5789 bc_2 (by decide) (by decide) (by decide) (by decide)
          have qe6567 : zi6564.toInt = (zi2891 : Int32).toInt + (2 : Int32).toInt := e_iadd ea6565 bd5789 bc_2 (by decide) (by decide)
          have qe6568 : zi6564.toInt = zi2891.toInt + 2 := by have ha : (2 : Int32).toInt = 2 := (by decide); rw [ha] at qe6567; exact qe6567
          refine va_sld hx hb hX hbl hbA hS (vp_bv (by omega) (by omega)) dL_law_657 (lv_topi (fun zi6569 ez6570 => ?_))
          refine lv_if_eq (tgt := 665) hx hb dL_law_658 (by decide) (fun cn6571 => ?_) (fun cn6571 => ?_)
          · skip
            have bd6572 : (0 : Int) ≤ zi6569.toInt ∧ zi6569.toInt ≤ 0 := r_eq_x cn6571 (b_all zi6569) bc_0 (by decide) (by decide)
            refine lv_iconst (v := 0) hx hb dL_law_665 (by decide) ?_
            refine kq_i hw hS hA (va_runV (As := [.int zi6562, .int 0]) (rest := []) ⟨hx, hb, hml, hown, hT⟩ (cX11_order_0 l G cy ev K ln Ls hW _ hp2892 ok2893 qa901 zi6562 0 kd2897 (b_wid2 bc_0 (by decide) (by decide))) (cwV 2 hT (good_V tb_1210 tb_1207 tb_1208 tb_1209 tb_105) rfl rfl rfl (by decide +kernel) ⟨Nat.le_of_ble_eq_true rfl, Nat.le_of_ble_eq_true rfl⟩) (pool_preV (ci := 11) hK hE hS hA hw hW kd2897 (by decide) rfl) rfl rfl hl.1 rfl (lv_room (Nat.le_of_ble_eq_true rfl)) dL_law_666 ⟨(show (400 + (gn - g0)) + 0 ≤ 600000 from by omega), (show (100000 + 14 * (gn - g0)) + 0 ≤ 7302250 from by omega)⟩) (fun zi6577 hp6573 H locs hq6576 hw hS => ?_)
            obtain ⟨ok6574, F6575⟩ := hq6576
            have hw : PW G cy K ln Ls A hp6573 H := hw
            refine lv_pop hx hb dL_law_669 rfl ?_
            refine lv_aload_n hx hb dL_law_670 rfl (lv_at hl 2 rfl) ?_
            refine lv_aload_n hx hb dL_law_671 rfl (lv_at hl 0 rfl) ?_
            refine lv_iload_n hx hb dL_law_672 rfl (lv_at hl 3 rfl) ?_
            refine lv_iconst (v := 1) hx hb dL_law_673 (by decide) ?_
            refine lv_iadd hx hb dL_law_674 (lv_topi (fun zi6578 ea6579 => ?_))
            have bd6580 : (1 : Int) ≤ zi6578.toInt ∧ zi6578.toInt ≤ 3067 := b_iadd ea6579 bd5789 bc_1 (by decide) (by decide) (by decide) (by decide)
            have qe6581 : zi6578.toInt = (zi2891 : Int32).toInt + (1 : Int32).toInt := e_iadd ea6579 bd5789 bc_1 (by decide) (by decide)
            have qe6582 : zi6578.toInt = zi2891.toInt + 1 := by have ha : (1 : Int32).toInt = 1 := (by decide); rw [ha] at qe6581; exact qe6581
            refine va_sld hx hb hX hbl hbA hS (vp_bv (by omega) (by omega)) dL_law_675 (lv_topi (fun zi6583 ez6584 => ?_))
            refine lv_aload_n hx hb dL_law_676 rfl (lv_at hl 0 rfl) ?_
            refine lv_iload_n hx hb dL_law_677 rfl (lv_at hl 3 rfl) ?_
            refine lv_iconst (v := 2) hx hb dL_law_678 (by decide) ?_
            refine lv_iadd hx hb dL_law_679 (lv_topi (fun zi6585 ea6586 => ?_))
            have bd6587 : (2 : Int) ≤ zi6585.toInt ∧ zi6585.toInt ≤ 3068 := b_iadd ea6586 bd5789 bc_2 (by decide) (by decide) (by decide) (by decide)
            have qe6588 : zi6585.toInt = (zi2891 : Int32).toInt + (2 : Int32).toInt := e_iadd ea6586 bd5789 bc_2 (by decide) (by decide)
            have qe6589 : zi6585.toInt = zi2891.toInt + 2 := by have ha : (2 : Int32).toInt = 2 := (by decide); rw [ha] at qe6588; exact qe6588
            refine va_sld hx hb hX hbl hbA hS (vp_bv (by omega) (by omega)) dL_law_680 (lv_topi (fun zi6590 ez6591 => ?_))
            refine lv_if_eq (tgt := 688) hx hb dL_law_681 (by decide) (fun cn6592 => ?_) (fun cn6592 => ?_)
            · skip
              have bd6593 : (0 : Int) ≤ zi6590.toInt ∧ zi6590.toInt ≤ 0 := r_eq_x cn6592 (b_all zi6590) bc_0 (by decide) (by decide)
              refine lv_iconst (v := 0) hx hb dL_law_688 (by decide) ?_
              have pd6594 : LW hp6573 qa900 := LW_fr ok2893 kd2896 (show Fr [3003, 3004, 5003, 5004, 5005, 5006, 5007, 8000, 8001, 8002, 8003, 8004, 8005, 8006, 8008, 27000, 35000, 36000, 40000, 41000, 42000] K hp2892 hp6573 from (Fr.tr (Fr.rf) F6575 (by decide))) (by decide) pd2895
              refine kq_i hw hS hA (va_runV (As := [.int zi6583, .int 0]) (rest := []) ⟨hx, hb, hml, hown, hT⟩ (cX12_order_0 l G cy ev K ln Ls hW _ hp6573 ok6574 qa900 zi6583 0 kd2896 (b_wid2 bc_0 (by decide) (by decide)) pd6594) (cwV 2 hT (good_V tb_1875 tb_1872 tb_1873 tb_1874 tb_122) rfl rfl rfl (by decide +kernel) ⟨Nat.le_of_ble_eq_true rfl, Nat.le_of_ble_eq_true rfl⟩) (pool_preV (ci := 12) hK hE hS hA hw hW kd2896 (by decide) rfl) rfl rfl hl.1 rfl (lv_room (Nat.le_of_ble_eq_true rfl)) dL_law_689 ⟨(show (400 + (gn - g0)) + 0 ≤ 600000 from by omega), (show (100000 + 14 * (gn - g0)) + 0 ≤ 7302250 from by omega)⟩) (fun zi6599 hp6595 H locs hq6598 hw hS => ?_)
              obtain ⟨ok6596, F6597⟩ := hq6598
              have hw : PW G cy K ln Ls A hp6595 H := hw
              refine lv_pop hx hb dL_law_692 rfl ?_
              refine lv_goto (tgt := 1044) hx hb dL_law_693 (by decide) ?_
              obtain ⟨zi6600, ea6601⟩ : ∃ z : Int32, z = zi2891 + 6 := ⟨_, rfl⟩
              have bd6602 : (6 : Int) ≤ zi6600.toInt ∧ zi6600.toInt ≤ 3072 := b_iadd ea6601 bd5789 bc_6 (by decide) (by decide) (by decide) (by decide)
              have qe6603 : zi6600.toInt = (zi2891 : Int32).toInt + (6 : Int32).toInt := e_iadd ea6601 bd5789 bc_6 (by decide) (by decide)
              have qe6604 : zi6600.toInt = zi2891.toInt + 6 := by have ha : (6 : Int32).toInt = 6 := (by decide); rw [ha] at qe6603; exact qe6603
              refine lv_iinc (v := zi6600) (lv' := [(3, .int zi6600), (0, .ref b), (1, .ref qa901), (2, .ref qa900)]) hx hb dL_law_1044 hl (k := 3) rfl ea6601.symm (by decide) rfl (fun ls hl => ?_)
              refine lv_goto (tgt := 18) hx hb dL_law_1047 (by decide) ?_
              have pd6605 : NSx K ln hp6595 gn := NSx_fr ok2893  (show Fr [3003, 3004, 5003, 5004, 5005, 5006, 5007, 8000, 8001, 8002, 8003, 8004, 8005, 8006, 8008, 13048, 13051, 13057, 27000, 35000, 36000, 40000, 41000, 42000, 90000, 91000, 93000, 96000, 97000] K hp2892 hp6595 from (Fr.tr (Fr.tr (Fr.rf) F6575 (by decide)) F6597 (by decide))) (by decide) pd2894
              have pd6606 : LW hp6595 qa900 := LW_fr ok6574 kd2896 (show Fr [13048, 13051, 13057, 90000, 91000, 93000, 96000, 97000] K hp6573 hp6595 from (Fr.tr (Fr.rf) F6597 (by decide))) (by decide) pd6594
              exact ih5774 K ln Ls gn hp6595 zi6600 _ _ ls (by have := hm5776; have := qe6604; omega) hW gex (FrX.tr gfx gex (FrX.of (show Fr [3003, 3004, 5003, 5004, 5005, 5006, 5007, 8000, 8001, 8002, 8003, 8004, 8005, 8006, 8008, 13048, 13051, 13057, 27000, 35000, 36000, 40000, 41000, 42000, 90000, 91000, 93000, 96000, 97000] K hp2892 hp6595 from (Fr.tr (Fr.tr (Fr.rf) F6575 (by decide)) F6597 (by decide)))) (by decide +kernel)) ok6596 pd6605 (by omega) pd6606 kd2896 kd2897 (b_wid2 bd6602 (by decide) (by decide)) (lv_sub hl [1, 2, 3, 0] rfl) hw hS
            · skip
              have tf6607 : (zi6590 : Int32).toInt ≠ (0 : Int32).toInt := fun e => cn6592 (Int32.toInt_inj.mp e)
              have := toi bc_0
              refine lv_iconst (v := 1) hx hb dL_law_684 (by decide) ?_
              refine lv_goto (tgt := 689) hx hb dL_law_685 (by decide) ?_
              have pd6608 : LW hp6573 qa900 := LW_fr ok2893 kd2896 (show Fr [3003, 3004, 5003, 5004, 5005, 5006, 5007, 8000, 8001, 8002, 8003, 8004, 8005, 8006, 8008, 27000, 35000, 36000, 40000, 41000, 42000] K hp2892 hp6573 from (Fr.tr (Fr.rf) F6575 (by decide))) (by decide) pd2895
              refine kq_i hw hS hA (va_runV (As := [.int zi6583, .int 1]) (rest := []) ⟨hx, hb, hml, hown, hT⟩ (cX12_order_0 l G cy ev K ln Ls hW _ hp6573 ok6574 qa900 zi6583 1 kd2896 (b_wid2 bc_1 (by decide) (by decide)) pd6608) (cwV 2 hT (good_V tb_1875 tb_1872 tb_1873 tb_1874 tb_122) rfl rfl rfl (by decide +kernel) ⟨Nat.le_of_ble_eq_true rfl, Nat.le_of_ble_eq_true rfl⟩) (pool_preV (ci := 12) hK hE hS hA hw hW kd2896 (by decide) rfl) rfl rfl hl.1 rfl (lv_room (Nat.le_of_ble_eq_true rfl)) dL_law_689 ⟨(show (400 + (gn - g0)) + 0 ≤ 600000 from by omega), (show (100000 + 14 * (gn - g0)) + 0 ≤ 7302250 from by omega)⟩) (fun zi6613 hp6609 H locs hq6612 hw hS => ?_)
              obtain ⟨ok6610, F6611⟩ := hq6612
              have hw : PW G cy K ln Ls A hp6609 H := hw
              refine lv_pop hx hb dL_law_692 rfl ?_
              refine lv_goto (tgt := 1044) hx hb dL_law_693 (by decide) ?_
              obtain ⟨zi6614, ea6615⟩ : ∃ z : Int32, z = zi2891 + 6 := ⟨_, rfl⟩
              have bd6616 : (6 : Int) ≤ zi6614.toInt ∧ zi6614.toInt ≤ 3072 := b_iadd ea6615 bd5789 bc_6 (by decide) (by decide) (by decide) (by decide)
              have qe6617 : zi6614.toInt = (zi2891 : Int32).toInt + (6 : Int32).toInt := e_iadd ea6615 bd5789 bc_6 (by decide) (by decide)
              have qe6618 : zi6614.toInt = zi2891.toInt + 6 := by have ha : (6 : Int32).toInt = 6 := (by decide); rw [ha] at qe6617; exact qe6617
              refine lv_iinc (v := zi6614) (lv' := [(3, .int zi6614), (0, .ref b), (1, .ref qa901), (2, .ref qa900)]) hx hb dL_law_1044 hl (k := 3) rfl ea6615.symm (by decide) rfl (fun ls hl => ?_)
              refine lv_goto (tgt := 18) hx hb dL_law_1047 (by decide) ?_
              have pd6619 : NSx K ln hp6609 gn := NSx_fr ok2893  (show Fr [3003, 3004, 5003, 5004, 5005, 5006, 5007, 8000, 8001, 8002, 8003, 8004, 8005, 8006, 8008, 13048, 13051, 13057, 27000, 35000, 36000, 40000, 41000, 42000, 90000, 91000, 93000, 96000, 97000] K hp2892 hp6609 from (Fr.tr (Fr.tr (Fr.rf) F6575 (by decide)) F6611 (by decide))) (by decide) pd2894
              have pd6620 : LW hp6609 qa900 := LW_fr ok6574 kd2896 (show Fr [13048, 13051, 13057, 90000, 91000, 93000, 96000, 97000] K hp6573 hp6609 from (Fr.tr (Fr.rf) F6611 (by decide))) (by decide) pd6608
              exact ih5774 K ln Ls gn hp6609 zi6614 _ _ ls (by have := hm5776; have := qe6618; omega) hW gex (FrX.tr gfx gex (FrX.of (show Fr [3003, 3004, 5003, 5004, 5005, 5006, 5007, 8000, 8001, 8002, 8003, 8004, 8005, 8006, 8008, 13048, 13051, 13057, 27000, 35000, 36000, 40000, 41000, 42000, 90000, 91000, 93000, 96000, 97000] K hp2892 hp6609 from (Fr.tr (Fr.tr (Fr.rf) F6575 (by decide)) F6611 (by decide)))) (by decide +kernel)) ok6610 pd6619 (by omega) pd6620 kd2896 kd2897 (b_wid2 bd6616 (by decide) (by decide)) (lv_sub hl [1, 2, 3, 0] rfl) hw hS
          · skip
            have tf6621 : (zi6569 : Int32).toInt ≠ (0 : Int32).toInt := fun e => cn6571 (Int32.toInt_inj.mp e)
            have := toi bc_0
            refine lv_iconst (v := 1) hx hb dL_law_661 (by decide) ?_
            refine lv_goto (tgt := 666) hx hb dL_law_662 (by decide) ?_
            refine kq_i hw hS hA (va_runV (As := [.int zi6562, .int 1]) (rest := []) ⟨hx, hb, hml, hown, hT⟩ (cX11_order_0 l G cy ev K ln Ls hW _ hp2892 ok2893 qa901 zi6562 1 kd2897 (b_wid2 bc_1 (by decide) (by decide))) (cwV 2 hT (good_V tb_1210 tb_1207 tb_1208 tb_1209 tb_105) rfl rfl rfl (by decide +kernel) ⟨Nat.le_of_ble_eq_true rfl, Nat.le_of_ble_eq_true rfl⟩) (pool_preV (ci := 11) hK hE hS hA hw hW kd2897 (by decide) rfl) rfl rfl hl.1 rfl (lv_room (Nat.le_of_ble_eq_true rfl)) dL_law_666 ⟨(show (400 + (gn - g0)) + 0 ≤ 600000 from by omega), (show (100000 + 14 * (gn - g0)) + 0 ≤ 7302250 from by omega)⟩) (fun zi6626 hp6622 H locs hq6625 hw hS => ?_)
            obtain ⟨ok6623, F6624⟩ := hq6625
            have hw : PW G cy K ln Ls A hp6622 H := hw
            refine lv_pop hx hb dL_law_669 rfl ?_
            refine lv_aload_n hx hb dL_law_670 rfl (lv_at hl 2 rfl) ?_
            refine lv_aload_n hx hb dL_law_671 rfl (lv_at hl 0 rfl) ?_
            refine lv_iload_n hx hb dL_law_672 rfl (lv_at hl 3 rfl) ?_
            refine lv_iconst (v := 1) hx hb dL_law_673 (by decide) ?_
            refine lv_iadd hx hb dL_law_674 (lv_topi (fun zi6627 ea6628 => ?_))
            have bd6629 : (1 : Int) ≤ zi6627.toInt ∧ zi6627.toInt ≤ 3067 := b_iadd ea6628 bd5789 bc_1 (by decide) (by decide) (by decide) (by decide)
            have qe6630 : zi6627.toInt = (zi2891 : Int32).toInt + (1 : Int32).toInt := e_iadd ea6628 bd5789 bc_1 (by decide) (by decide)
            have qe6631 : zi6627.toInt = zi2891.toInt + 1 := by have ha : (1 : Int32).toInt = 1 := (by decide); rw [ha] at qe6630; exact qe6630
            refine va_sld hx hb hX hbl hbA hS (vp_bv (by omega) (by omega)) dL_law_675 (lv_topi (fun zi6632 ez6633 => ?_))
            refine lv_aload_n hx hb dL_law_676 rfl (lv_at hl 0 rfl) ?_
            refine lv_iload_n hx hb dL_law_677 rfl (lv_at hl 3 rfl) ?_
            refine lv_iconst (v := 2) hx hb dL_law_678 (by decide) ?_
            refine lv_iadd hx hb dL_law_679 (lv_topi (fun zi6634 ea6635 => ?_))
            have bd6636 : (2 : Int) ≤ zi6634.toInt ∧ zi6634.toInt ≤ 3068 := b_iadd ea6635 bd5789 bc_2 (by decide) (by decide) (by decide) (by decide)
            have qe6637 : zi6634.toInt = (zi2891 : Int32).toInt + (2 : Int32).toInt := e_iadd ea6635 bd5789 bc_2 (by decide) (by decide)
            have qe6638 : zi6634.toInt = zi2891.toInt + 2 := by have ha : (2 : Int32).toInt = 2 := (by decide); rw [ha] at qe6637; exact qe6637
            refine va_sld hx hb hX hbl hbA hS (vp_bv (by omega) (by omega)) dL_law_680 (lv_topi (fun zi6639 ez6640 => ?_))
            refine lv_if_eq (tgt := 688) hx hb dL_law_681 (by decide) (fun cn6641 => ?_) (fun cn6641 => ?_)
            · skip
              have bd6642 : (0 : Int) ≤ zi6639.toInt ∧ zi6639.toInt ≤ 0 := r_eq_x cn6641 (b_all zi6639) bc_0 (by decide) (by decide)
              refine lv_iconst (v := 0) hx hb dL_law_688 (by decide) ?_
              have pd6643 : LW hp6622 qa900 := LW_fr ok2893 kd2896 (show Fr [3003, 3004, 5003, 5004, 5005, 5006, 5007, 8000, 8001, 8002, 8003, 8004, 8005, 8006, 8008, 27000, 35000, 36000, 40000, 41000, 42000] K hp2892 hp6622 from (Fr.tr (Fr.rf) F6624 (by decide))) (by decide) pd2895
              refine kq_i hw hS hA (va_runV (As := [.int zi6632, .int 0]) (rest := []) ⟨hx, hb, hml, hown, hT⟩ (cX12_order_0 l G cy ev K ln Ls hW _ hp6622 ok6623 qa900 zi6632 0 kd2896 (b_wid2 bc_0 (by decide) (by decide)) pd6643) (cwV 2 hT (good_V tb_1875 tb_1872 tb_1873 tb_1874 tb_122) rfl rfl rfl (by decide +kernel) ⟨Nat.le_of_ble_eq_true rfl, Nat.le_of_ble_eq_true rfl⟩) (pool_preV (ci := 12) hK hE hS hA hw hW kd2896 (by decide) rfl) rfl rfl hl.1 rfl (lv_room (Nat.le_of_ble_eq_true rfl)) dL_law_689 ⟨(show (400 + (gn - g0)) + 0 ≤ 600000 from by omega), (show (100000 + 14 * (gn - g0)) + 0 ≤ 7302250 from by omega)⟩) (fun zi6648 hp6644 H locs hq6647 hw hS => ?_)
              obtain ⟨ok6645, F6646⟩ := hq6647
              have hw : PW G cy K ln Ls A hp6644 H := hw
              refine lv_pop hx hb dL_law_692 rfl ?_
              refine lv_goto (tgt := 1044) hx hb dL_law_693 (by decide) ?_
              obtain ⟨zi6649, ea6650⟩ : ∃ z : Int32, z = zi2891 + 6 := ⟨_, rfl⟩
              have bd6651 : (6 : Int) ≤ zi6649.toInt ∧ zi6649.toInt ≤ 3072 := b_iadd ea6650 bd5789 bc_6 (by decide) (by decide) (by decide) (by decide)
              have qe6652 : zi6649.toInt = (zi2891 : Int32).toInt + (6 : Int32).toInt := e_iadd ea6650 bd5789 bc_6 (by decide) (by decide)
              have qe6653 : zi6649.toInt = zi2891.toInt + 6 := by have ha : (6 : Int32).toInt = 6 := (by decide); rw [ha] at qe6652; exact qe6652
              refine lv_iinc (v := zi6649) (lv' := [(3, .int zi6649), (0, .ref b), (1, .ref qa901), (2, .ref qa900)]) hx hb dL_law_1044 hl (k := 3) rfl ea6650.symm (by decide) rfl (fun ls hl => ?_)
              refine lv_goto (tgt := 18) hx hb dL_law_1047 (by decide) ?_
              have pd6654 : NSx K ln hp6644 gn := NSx_fr ok2893  (show Fr [3003, 3004, 5003, 5004, 5005, 5006, 5007, 8000, 8001, 8002, 8003, 8004, 8005, 8006, 8008, 13048, 13051, 13057, 27000, 35000, 36000, 40000, 41000, 42000, 90000, 91000, 93000, 96000, 97000] K hp2892 hp6644 from (Fr.tr (Fr.tr (Fr.rf) F6624 (by decide)) F6646 (by decide))) (by decide) pd2894
              have pd6655 : LW hp6644 qa900 := LW_fr ok6623 kd2896 (show Fr [13048, 13051, 13057, 90000, 91000, 93000, 96000, 97000] K hp6622 hp6644 from (Fr.tr (Fr.rf) F6646 (by decide))) (by decide) pd6643
              exact ih5774 K ln Ls gn hp6644 zi6649 _ _ ls (by have := hm5776; have := qe6653; omega) hW gex (FrX.tr gfx gex (FrX.of (show Fr [3003, 3004, 5003, 5004, 5005, 5006, 5007, 8000, 8001, 8002, 8003, 8004, 8005, 8006, 8008, 13048, 13051, 13057, 27000, 35000, 36000, 40000, 41000, 42000, 90000, 91000, 93000, 96000, 97000] K hp2892 hp6644 from (Fr.tr (Fr.tr (Fr.rf) F6624 (by decide)) F6646 (by decide)))) (by decide +kernel)) ok6645 pd6654 (by omega) pd6655 kd2896 kd2897 (b_wid2 bd6651 (by decide) (by decide)) (lv_sub hl [1, 2, 3, 0] rfl) hw hS
            · skip
              have tf6656 : (zi6639 : Int32).toInt ≠ (0 : Int32).toInt := fun e => cn6641 (Int32.toInt_inj.mp e)
              have := toi bc_0
              refine lv_iconst (v := 1) hx hb dL_law_684 (by decide) ?_
              refine lv_goto (tgt := 689) hx hb dL_law_685 (by decide) ?_
              have pd6657 : LW hp6622 qa900 := LW_fr ok2893 kd2896 (show Fr [3003, 3004, 5003, 5004, 5005, 5006, 5007, 8000, 8001, 8002, 8003, 8004, 8005, 8006, 8008, 27000, 35000, 36000, 40000, 41000, 42000] K hp2892 hp6622 from (Fr.tr (Fr.rf) F6624 (by decide))) (by decide) pd2895
              refine kq_i hw hS hA (va_runV (As := [.int zi6632, .int 1]) (rest := []) ⟨hx, hb, hml, hown, hT⟩ (cX12_order_0 l G cy ev K ln Ls hW _ hp6622 ok6623 qa900 zi6632 1 kd2896 (b_wid2 bc_1 (by decide) (by decide)) pd6657) (cwV 2 hT (good_V tb_1875 tb_1872 tb_1873 tb_1874 tb_122) rfl rfl rfl (by decide +kernel) ⟨Nat.le_of_ble_eq_true rfl, Nat.le_of_ble_eq_true rfl⟩) (pool_preV (ci := 12) hK hE hS hA hw hW kd2896 (by decide) rfl) rfl rfl hl.1 rfl (lv_room (Nat.le_of_ble_eq_true rfl)) dL_law_689 ⟨(show (400 + (gn - g0)) + 0 ≤ 600000 from by omega), (show (100000 + 14 * (gn - g0)) + 0 ≤ 7302250 from by omega)⟩) (fun zi6662 hp6658 H locs hq6661 hw hS => ?_)
              obtain ⟨ok6659, F6660⟩ := hq6661
              have hw : PW G cy K ln Ls A hp6658 H := hw
              refine lv_pop hx hb dL_law_692 rfl ?_
              refine lv_goto (tgt := 1044) hx hb dL_law_693 (by decide) ?_
              obtain ⟨zi6663, ea6664⟩ : ∃ z : Int32, z = zi2891 + 6 := ⟨_, rfl⟩
              have bd6665 : (6 : Int) ≤ zi6663.toInt ∧ zi6663.toInt ≤ 3072 := b_iadd ea6664 bd5789 bc_6 (by decide) (by decide) (by decide) (by decide)
              have qe6666 : zi6663.toInt = (zi2891 : Int32).toInt + (6 : Int32).toInt := e_iadd ea6664 bd5789 bc_6 (by decide) (by decide)
              have qe6667 : zi6663.toInt = zi2891.toInt + 6 := by have ha : (6 : Int32).toInt = 6 := (by decide); rw [ha] at qe6666; exact qe6666
              refine lv_iinc (v := zi6663) (lv' := [(3, .int zi6663), (0, .ref b), (1, .ref qa901), (2, .ref qa900)]) hx hb dL_law_1044 hl (k := 3) rfl ea6664.symm (by decide) rfl (fun ls hl => ?_)
              refine lv_goto (tgt := 18) hx hb dL_law_1047 (by decide) ?_
              have pd6668 : NSx K ln hp6658 gn := NSx_fr ok2893  (show Fr [3003, 3004, 5003, 5004, 5005, 5006, 5007, 8000, 8001, 8002, 8003, 8004, 8005, 8006, 8008, 13048, 13051, 13057, 27000, 35000, 36000, 40000, 41000, 42000, 90000, 91000, 93000, 96000, 97000] K hp2892 hp6658 from (Fr.tr (Fr.tr (Fr.rf) F6624 (by decide)) F6660 (by decide))) (by decide) pd2894
              have pd6669 : LW hp6658 qa900 := LW_fr ok6623 kd2896 (show Fr [13048, 13051, 13057, 90000, 91000, 93000, 96000, 97000] K hp6622 hp6658 from (Fr.tr (Fr.rf) F6660 (by decide))) (by decide) pd6657
              exact ih5774 K ln Ls gn hp6658 zi6663 _ _ ls (by have := hm5776; have := qe6667; omega) hW gex (FrX.tr gfx gex (FrX.of (show Fr [3003, 3004, 5003, 5004, 5005, 5006, 5007, 8000, 8001, 8002, 8003, 8004, 8005, 8006, 8008, 13048, 13051, 13057, 27000, 35000, 36000, 40000, 41000, 42000, 90000, 91000, 93000, 96000, 97000] K hp2892 hp6658 from (Fr.tr (Fr.tr (Fr.rf) F6624 (by decide)) F6660 (by decide)))) (by decide +kernel)) ok6659 pd6668 (by omega) pd6669 kd2896 kd2897 (b_wid2 bd6665 (by decide) (by decide)) (lv_sub hl [1, 2, 3, 0] rfl) hw hS
        by_cases cn5815 : zi5794 = 18
        · skip
          refine lv_tableIn (tgt := 696) hx hb dL_law_33 (by rw [cn5815]; decide) (by rw [cn5815]; decide) (by rw [cn5815]; rfl) (by decide) ?_
          have bd6670 : (18 : Int) ≤ zi5794.toInt ∧ zi5794.toInt ≤ 18 := r_eq_x cn5815 bd5796 bc_18 (by decide) (by decide)
          refine lv_aload_n hx hb dL_law_696 rfl (lv_at hl 1 rfl) ?_
          refine lv_aload_n hx hb dL_law_697 rfl (lv_at hl 0 rfl) ?_
          refine lv_iload_n hx hb dL_law_698 rfl (lv_at hl 3 rfl) ?_
          refine lv_iconst (v := 1) hx hb dL_law_699 (by decide) ?_
          refine lv_iadd hx hb dL_law_700 (lv_topi (fun zi6671 ea6672 => ?_))
          have bd6673 : (1 : Int) ≤ zi6671.toInt ∧ zi6671.toInt ≤ 3067 := b_iadd ea6672 bd5789 bc_1 (by decide) (by decide) (by decide) (by decide)
          have qe6674 : zi6671.toInt = (zi2891 : Int32).toInt + (1 : Int32).toInt := e_iadd ea6672 bd5789 bc_1 (by decide) (by decide)
          have qe6675 : zi6671.toInt = zi2891.toInt + 1 := by have ha : (1 : Int32).toInt = 1 := (by decide); rw [ha] at qe6674; exact qe6674
          refine va_sld hx hb hX hbl hbA hS (vp_bv (by omega) (by omega)) dL_law_701 (lv_topi (fun zi6676 ez6677 => ?_))
          refine lv_aload_n hx hb dL_law_702 rfl (lv_at hl 0 rfl) ?_
          refine lv_iload_n hx hb dL_law_703 rfl (lv_at hl 3 rfl) ?_
          refine lv_iconst (v := 2) hx hb dL_law_704 (by decide) ?_
          refine lv_iadd hx hb dL_law_705 (lv_topi (fun zi6678 ea6679 => ?_))
          have bd6680 : (2 : Int) ≤ zi6678.toInt ∧ zi6678.toInt ≤ 3068 := b_iadd ea6679 bd5789 bc_2 (by decide) (by decide) (by decide) (by decide)
          have qe6681 : zi6678.toInt = (zi2891 : Int32).toInt + (2 : Int32).toInt := e_iadd ea6679 bd5789 bc_2 (by decide) (by decide)
          have qe6682 : zi6678.toInt = zi2891.toInt + 2 := by have ha : (2 : Int32).toInt = 2 := (by decide); rw [ha] at qe6681; exact qe6681
          refine va_sld hx hb hX hbl hbA hS (vp_bv (by omega) (by omega)) dL_law_706 (lv_topi (fun zi6683 ez6684 => ?_))
          refine lv_if_eq (tgt := 714) hx hb dL_law_707 (by decide) (fun cn6685 => ?_) (fun cn6685 => ?_)
          · skip
            have bd6686 : (0 : Int) ≤ zi6683.toInt ∧ zi6683.toInt ≤ 0 := r_eq_x cn6685 (b_all zi6683) bc_0 (by decide) (by decide)
            refine lv_iconst (v := 0) hx hb dL_law_714 (by decide) ?_
            refine lv_aload_n hx hb dL_law_715 rfl (lv_at hl 0 rfl) ?_
            refine lv_iload_n hx hb dL_law_716 rfl (lv_at hl 3 rfl) ?_
            refine lv_iconst (v := 3) hx hb dL_law_717 (by decide) ?_
            refine lv_iadd hx hb dL_law_718 (lv_topi (fun zi6687 ea6688 => ?_))
            have bd6689 : (3 : Int) ≤ zi6687.toInt ∧ zi6687.toInt ≤ 3069 := b_iadd ea6688 bd5789 bc_3 (by decide) (by decide) (by decide) (by decide)
            have qe6690 : zi6687.toInt = (zi2891 : Int32).toInt + (3 : Int32).toInt := e_iadd ea6688 bd5789 bc_3 (by decide) (by decide)
            have qe6691 : zi6687.toInt = zi2891.toInt + 3 := by have ha : (3 : Int32).toInt = 3 := (by decide); rw [ha] at qe6690; exact qe6690
            refine va_sld hx hb hX hbl hbA hS (vp_bv (by omega) (by omega)) dL_law_719 (lv_topi (fun zi6692 ez6693 => ?_))
            refine kq_i hw hS hA (va_runV (As := [.int zi6676, .int 0, .int zi6692]) (rest := []) ⟨hx, hb, hml, hown, hT⟩ (cX11_orderAt_0 l G cy ev K ln Ls hW _ hp2892 ok2893 qa901 zi6676 0 zi6692 kd2897 (b_wid2 bc_0 (by decide) (by decide))) (cwV 3 hT (good_V tb_1239 tb_1236 tb_1237 tb_1238 tb_105) rfl rfl rfl (by decide +kernel) ⟨Nat.le_of_ble_eq_true rfl, Nat.le_of_ble_eq_true rfl⟩) (pool_preV (ci := 11) hK hE hS hA hw hW kd2897 (by decide) rfl) rfl rfl hl.1 rfl (lv_room (Nat.le_of_ble_eq_true rfl)) dL_law_720 ⟨(show (400 + (gn - g0)) + 0 ≤ 600000 from by omega), (show (100000 + 14 * (gn - g0)) + 0 ≤ 7302250 from by omega)⟩) (fun zi6698 hp6694 H locs hq6697 hw hS => ?_)
            obtain ⟨ok6695, F6696⟩ := hq6697
            have hw : PW G cy K ln Ls A hp6694 H := hw
            refine lv_pop hx hb dL_law_723 rfl ?_
            refine lv_aload_n hx hb dL_law_724 rfl (lv_at hl 2 rfl) ?_
            refine lv_aload_n hx hb dL_law_725 rfl (lv_at hl 0 rfl) ?_
            refine lv_iload_n hx hb dL_law_726 rfl (lv_at hl 3 rfl) ?_
            refine lv_iconst (v := 1) hx hb dL_law_727 (by decide) ?_
            refine lv_iadd hx hb dL_law_728 (lv_topi (fun zi6699 ea6700 => ?_))
            have bd6701 : (1 : Int) ≤ zi6699.toInt ∧ zi6699.toInt ≤ 3067 := b_iadd ea6700 bd5789 bc_1 (by decide) (by decide) (by decide) (by decide)
            have qe6702 : zi6699.toInt = (zi2891 : Int32).toInt + (1 : Int32).toInt := e_iadd ea6700 bd5789 bc_1 (by decide) (by decide)
            have qe6703 : zi6699.toInt = zi2891.toInt + 1 := by have ha : (1 : Int32).toInt = 1 := (by decide); rw [ha] at qe6702; exact qe6702
            refine va_sld hx hb hX hbl hbA hS (vp_bv (by omega) (by omega)) dL_law_729 (lv_topi (fun zi6704 ez6705 => ?_))
            refine lv_aload_n hx hb dL_law_730 rfl (lv_at hl 0 rfl) ?_
            refine lv_iload_n hx hb dL_law_731 rfl (lv_at hl 3 rfl) ?_
            refine lv_iconst (v := 2) hx hb dL_law_732 (by decide) ?_
            refine lv_iadd hx hb dL_law_733 (lv_topi (fun zi6706 ea6707 => ?_))
            have bd6708 : (2 : Int) ≤ zi6706.toInt ∧ zi6706.toInt ≤ 3068 := b_iadd ea6707 bd5789 bc_2 (by decide) (by decide) (by decide) (by decide)
            have qe6709 : zi6706.toInt = (zi2891 : Int32).toInt + (2 : Int32).toInt := e_iadd ea6707 bd5789 bc_2 (by decide) (by decide)
            have qe6710 : zi6706.toInt = zi2891.toInt + 2 := by have ha : (2 : Int32).toInt = 2 := (by decide); rw [ha] at qe6709; exact qe6709
            refine va_sld hx hb hX hbl hbA hS (vp_bv (by omega) (by omega)) dL_law_734 (lv_topi (fun zi6711 ez6712 => ?_))
            refine lv_if_eq (tgt := 742) hx hb dL_law_735 (by decide) (fun cn6713 => ?_) (fun cn6713 => ?_)
            · skip
              have bd6714 : (0 : Int) ≤ zi6711.toInt ∧ zi6711.toInt ≤ 0 := r_eq_x cn6713 (b_all zi6711) bc_0 (by decide) (by decide)
              refine lv_iconst (v := 0) hx hb dL_law_742 (by decide) ?_
              refine lv_aload_n hx hb dL_law_743 rfl (lv_at hl 0 rfl) ?_
              refine lv_iload_n hx hb dL_law_744 rfl (lv_at hl 3 rfl) ?_
              refine lv_iconst (v := 3) hx hb dL_law_745 (by decide) ?_
              refine lv_iadd hx hb dL_law_746 (lv_topi (fun zi6715 ea6716 => ?_))
              have bd6717 : (3 : Int) ≤ zi6715.toInt ∧ zi6715.toInt ≤ 3069 := b_iadd ea6716 bd5789 bc_3 (by decide) (by decide) (by decide) (by decide)
              have qe6718 : zi6715.toInt = (zi2891 : Int32).toInt + (3 : Int32).toInt := e_iadd ea6716 bd5789 bc_3 (by decide) (by decide)
              have qe6719 : zi6715.toInt = zi2891.toInt + 3 := by have ha : (3 : Int32).toInt = 3 := (by decide); rw [ha] at qe6718; exact qe6718
              refine va_sld hx hb hX hbl hbA hS (vp_bv (by omega) (by omega)) dL_law_747 (lv_topi (fun zi6720 ez6721 => ?_))
              have pd6722 : LW hp6694 qa900 := LW_fr ok2893 kd2896 (show Fr [3003, 3004, 5003, 5004, 5005, 5006, 5007, 8000, 8001, 8002, 8003, 8004, 8005, 8006, 8008, 27000, 35000, 36000, 40000, 41000, 42000] K hp2892 hp6694 from (Fr.tr (Fr.rf) F6696 (by decide))) (by decide) pd2895
              refine kq_i hw hS hA (va_runV (As := [.int zi6704, .int 0, .int zi6720]) (rest := []) ⟨hx, hb, hml, hown, hT⟩ (cX12_orderAt_0 l G cy ev K ln Ls hW _ hp6694 ok6695 qa900 zi6704 0 zi6720 kd2896 (b_wid2 bc_0 (by decide) (by decide)) pd6722) (cwV 3 hT (good_V tb_1895 tb_1892 tb_1893 tb_1894 tb_122) rfl rfl rfl (by decide +kernel) ⟨Nat.le_of_ble_eq_true rfl, Nat.le_of_ble_eq_true rfl⟩) (pool_preV (ci := 12) hK hE hS hA hw hW kd2896 (by decide) rfl) rfl rfl hl.1 rfl (lv_room (Nat.le_of_ble_eq_true rfl)) dL_law_748 ⟨(show (400 + (gn - g0)) + 0 ≤ 600000 from by omega), (show (100000 + 14 * (gn - g0)) + 0 ≤ 7302250 from by omega)⟩) (fun zi6727 hp6723 H locs hq6726 hw hS => ?_)
              obtain ⟨ok6724, F6725⟩ := hq6726
              have hw : PW G cy K ln Ls A hp6723 H := hw
              refine lv_pop hx hb dL_law_751 rfl ?_
              refine lv_goto (tgt := 1044) hx hb dL_law_752 (by decide) ?_
              obtain ⟨zi6728, ea6729⟩ : ∃ z : Int32, z = zi2891 + 6 := ⟨_, rfl⟩
              have bd6730 : (6 : Int) ≤ zi6728.toInt ∧ zi6728.toInt ≤ 3072 := b_iadd ea6729 bd5789 bc_6 (by decide) (by decide) (by decide) (by decide)
              have qe6731 : zi6728.toInt = (zi2891 : Int32).toInt + (6 : Int32).toInt := e_iadd ea6729 bd5789 bc_6 (by decide) (by decide)
              have qe6732 : zi6728.toInt = zi2891.toInt + 6 := by have ha : (6 : Int32).toInt = 6 := (by decide); rw [ha] at qe6731; exact qe6731
              refine lv_iinc (v := zi6728) (lv' := [(3, .int zi6728), (0, .ref b), (1, .ref qa901), (2, .ref qa900)]) hx hb dL_law_1044 hl (k := 3) rfl ea6729.symm (by decide) rfl (fun ls hl => ?_)
              refine lv_goto (tgt := 18) hx hb dL_law_1047 (by decide) ?_
              have pd6733 : NSx K ln hp6723 gn := NSx_fr ok2893  (show Fr [3003, 3004, 5003, 5004, 5005, 5006, 5007, 8000, 8001, 8002, 8003, 8004, 8005, 8006, 8008, 13048, 13051, 13057, 27000, 35000, 36000, 40000, 41000, 42000, 90000, 91000, 93000, 96000, 97000] K hp2892 hp6723 from (Fr.tr (Fr.tr (Fr.rf) F6696 (by decide)) F6725 (by decide))) (by decide) pd2894
              have pd6734 : LW hp6723 qa900 := LW_fr ok6695 kd2896 (show Fr [13048, 13051, 13057, 90000, 91000, 93000, 96000, 97000] K hp6694 hp6723 from (Fr.tr (Fr.rf) F6725 (by decide))) (by decide) pd6722
              exact ih5774 K ln Ls gn hp6723 zi6728 _ _ ls (by have := hm5776; have := qe6732; omega) hW gex (FrX.tr gfx gex (FrX.of (show Fr [3003, 3004, 5003, 5004, 5005, 5006, 5007, 8000, 8001, 8002, 8003, 8004, 8005, 8006, 8008, 13048, 13051, 13057, 27000, 35000, 36000, 40000, 41000, 42000, 90000, 91000, 93000, 96000, 97000] K hp2892 hp6723 from (Fr.tr (Fr.tr (Fr.rf) F6696 (by decide)) F6725 (by decide)))) (by decide +kernel)) ok6724 pd6733 (by omega) pd6734 kd2896 kd2897 (b_wid2 bd6730 (by decide) (by decide)) (lv_sub hl [1, 2, 3, 0] rfl) hw hS
            · skip
              have tf6735 : (zi6711 : Int32).toInt ≠ (0 : Int32).toInt := fun e => cn6713 (Int32.toInt_inj.mp e)
              have := toi bc_0
              refine lv_iconst (v := 1) hx hb dL_law_738 (by decide) ?_
              refine lv_goto (tgt := 743) hx hb dL_law_739 (by decide) ?_
              refine lv_aload_n hx hb dL_law_743 rfl (lv_at hl 0 rfl) ?_
              refine lv_iload_n hx hb dL_law_744 rfl (lv_at hl 3 rfl) ?_
              refine lv_iconst (v := 3) hx hb dL_law_745 (by decide) ?_
              refine lv_iadd hx hb dL_law_746 (lv_topi (fun zi6736 ea6737 => ?_))
              have bd6738 : (3 : Int) ≤ zi6736.toInt ∧ zi6736.toInt ≤ 3069 := b_iadd ea6737 bd5789 bc_3 (by decide) (by decide) (by decide) (by decide)
              have qe6739 : zi6736.toInt = (zi2891 : Int32).toInt + (3 : Int32).toInt := e_iadd ea6737 bd5789 bc_3 (by decide) (by decide)
              have qe6740 : zi6736.toInt = zi2891.toInt + 3 := by have ha : (3 : Int32).toInt = 3 := (by decide); rw [ha] at qe6739; exact qe6739
              refine va_sld hx hb hX hbl hbA hS (vp_bv (by omega) (by omega)) dL_law_747 (lv_topi (fun zi6741 ez6742 => ?_))
              have pd6743 : LW hp6694 qa900 := LW_fr ok2893 kd2896 (show Fr [3003, 3004, 5003, 5004, 5005, 5006, 5007, 8000, 8001, 8002, 8003, 8004, 8005, 8006, 8008, 27000, 35000, 36000, 40000, 41000, 42000] K hp2892 hp6694 from (Fr.tr (Fr.rf) F6696 (by decide))) (by decide) pd2895
              refine kq_i hw hS hA (va_runV (As := [.int zi6704, .int 1, .int zi6741]) (rest := []) ⟨hx, hb, hml, hown, hT⟩ (cX12_orderAt_0 l G cy ev K ln Ls hW _ hp6694 ok6695 qa900 zi6704 1 zi6741 kd2896 (b_wid2 bc_1 (by decide) (by decide)) pd6743) (cwV 3 hT (good_V tb_1895 tb_1892 tb_1893 tb_1894 tb_122) rfl rfl rfl (by decide +kernel) ⟨Nat.le_of_ble_eq_true rfl, Nat.le_of_ble_eq_true rfl⟩) (pool_preV (ci := 12) hK hE hS hA hw hW kd2896 (by decide) rfl) rfl rfl hl.1 rfl (lv_room (Nat.le_of_ble_eq_true rfl)) dL_law_748 ⟨(show (400 + (gn - g0)) + 0 ≤ 600000 from by omega), (show (100000 + 14 * (gn - g0)) + 0 ≤ 7302250 from by omega)⟩) (fun zi6748 hp6744 H locs hq6747 hw hS => ?_)
              obtain ⟨ok6745, F6746⟩ := hq6747
              have hw : PW G cy K ln Ls A hp6744 H := hw
              refine lv_pop hx hb dL_law_751 rfl ?_
              refine lv_goto (tgt := 1044) hx hb dL_law_752 (by decide) ?_
              obtain ⟨zi6749, ea6750⟩ : ∃ z : Int32, z = zi2891 + 6 := ⟨_, rfl⟩
              have bd6751 : (6 : Int) ≤ zi6749.toInt ∧ zi6749.toInt ≤ 3072 := b_iadd ea6750 bd5789 bc_6 (by decide) (by decide) (by decide) (by decide)
              have qe6752 : zi6749.toInt = (zi2891 : Int32).toInt + (6 : Int32).toInt := e_iadd ea6750 bd5789 bc_6 (by decide) (by decide)
              have qe6753 : zi6749.toInt = zi2891.toInt + 6 := by have ha : (6 : Int32).toInt = 6 := (by decide); rw [ha] at qe6752; exact qe6752
              refine lv_iinc (v := zi6749) (lv' := [(3, .int zi6749), (0, .ref b), (1, .ref qa901), (2, .ref qa900)]) hx hb dL_law_1044 hl (k := 3) rfl ea6750.symm (by decide) rfl (fun ls hl => ?_)
              refine lv_goto (tgt := 18) hx hb dL_law_1047 (by decide) ?_
              have pd6754 : NSx K ln hp6744 gn := NSx_fr ok2893  (show Fr [3003, 3004, 5003, 5004, 5005, 5006, 5007, 8000, 8001, 8002, 8003, 8004, 8005, 8006, 8008, 13048, 13051, 13057, 27000, 35000, 36000, 40000, 41000, 42000, 90000, 91000, 93000, 96000, 97000] K hp2892 hp6744 from (Fr.tr (Fr.tr (Fr.rf) F6696 (by decide)) F6746 (by decide))) (by decide) pd2894
              have pd6755 : LW hp6744 qa900 := LW_fr ok6695 kd2896 (show Fr [13048, 13051, 13057, 90000, 91000, 93000, 96000, 97000] K hp6694 hp6744 from (Fr.tr (Fr.rf) F6746 (by decide))) (by decide) pd6743
              exact ih5774 K ln Ls gn hp6744 zi6749 _ _ ls (by have := hm5776; have := qe6753; omega) hW gex (FrX.tr gfx gex (FrX.of (show Fr [3003, 3004, 5003, 5004, 5005, 5006, 5007, 8000, 8001, 8002, 8003, 8004, 8005, 8006, 8008, 13048, 13051, 13057, 27000, 35000, 36000, 40000, 41000, 42000, 90000, 91000, 93000, 96000, 97000] K hp2892 hp6744 from (Fr.tr (Fr.tr (Fr.rf) F6696 (by decide)) F6746 (by decide)))) (by decide +kernel)) ok6745 pd6754 (by omega) pd6755 kd2896 kd2897 (b_wid2 bd6751 (by decide) (by decide)) (lv_sub hl [1, 2, 3, 0] rfl) hw hS
          · skip
            have tf6756 : (zi6683 : Int32).toInt ≠ (0 : Int32).toInt := fun e => cn6685 (Int32.toInt_inj.mp e)
            have := toi bc_0
            refine lv_iconst (v := 1) hx hb dL_law_710 (by decide) ?_
            refine lv_goto (tgt := 715) hx hb dL_law_711 (by decide) ?_
            refine lv_aload_n hx hb dL_law_715 rfl (lv_at hl 0 rfl) ?_
            refine lv_iload_n hx hb dL_law_716 rfl (lv_at hl 3 rfl) ?_
            refine lv_iconst (v := 3) hx hb dL_law_717 (by decide) ?_
            refine lv_iadd hx hb dL_law_718 (lv_topi (fun zi6757 ea6758 => ?_))
            have bd6759 : (3 : Int) ≤ zi6757.toInt ∧ zi6757.toInt ≤ 3069 := b_iadd ea6758 bd5789 bc_3 (by decide) (by decide) (by decide) (by decide)
            have qe6760 : zi6757.toInt = (zi2891 : Int32).toInt + (3 : Int32).toInt := e_iadd ea6758 bd5789 bc_3 (by decide) (by decide)
            have qe6761 : zi6757.toInt = zi2891.toInt + 3 := by have ha : (3 : Int32).toInt = 3 := (by decide); rw [ha] at qe6760; exact qe6760
            refine va_sld hx hb hX hbl hbA hS (vp_bv (by omega) (by omega)) dL_law_719 (lv_topi (fun zi6762 ez6763 => ?_))
            refine kq_i hw hS hA (va_runV (As := [.int zi6676, .int 1, .int zi6762]) (rest := []) ⟨hx, hb, hml, hown, hT⟩ (cX11_orderAt_0 l G cy ev K ln Ls hW _ hp2892 ok2893 qa901 zi6676 1 zi6762 kd2897 (b_wid2 bc_1 (by decide) (by decide))) (cwV 3 hT (good_V tb_1239 tb_1236 tb_1237 tb_1238 tb_105) rfl rfl rfl (by decide +kernel) ⟨Nat.le_of_ble_eq_true rfl, Nat.le_of_ble_eq_true rfl⟩) (pool_preV (ci := 11) hK hE hS hA hw hW kd2897 (by decide) rfl) rfl rfl hl.1 rfl (lv_room (Nat.le_of_ble_eq_true rfl)) dL_law_720 ⟨(show (400 + (gn - g0)) + 0 ≤ 600000 from by omega), (show (100000 + 14 * (gn - g0)) + 0 ≤ 7302250 from by omega)⟩) (fun zi6768 hp6764 H locs hq6767 hw hS => ?_)
            obtain ⟨ok6765, F6766⟩ := hq6767
            have hw : PW G cy K ln Ls A hp6764 H := hw
            refine lv_pop hx hb dL_law_723 rfl ?_
            refine lv_aload_n hx hb dL_law_724 rfl (lv_at hl 2 rfl) ?_
            refine lv_aload_n hx hb dL_law_725 rfl (lv_at hl 0 rfl) ?_
            refine lv_iload_n hx hb dL_law_726 rfl (lv_at hl 3 rfl) ?_
            refine lv_iconst (v := 1) hx hb dL_law_727 (by decide) ?_
            refine lv_iadd hx hb dL_law_728 (lv_topi (fun zi6769 ea6770 => ?_))
            have bd6771 : (1 : Int) ≤ zi6769.toInt ∧ zi6769.toInt ≤ 3067 := b_iadd ea6770 bd5789 bc_1 (by decide) (by decide) (by decide) (by decide)
            have qe6772 : zi6769.toInt = (zi2891 : Int32).toInt + (1 : Int32).toInt := e_iadd ea6770 bd5789 bc_1 (by decide) (by decide)
            have qe6773 : zi6769.toInt = zi2891.toInt + 1 := by have ha : (1 : Int32).toInt = 1 := (by decide); rw [ha] at qe6772; exact qe6772
            refine va_sld hx hb hX hbl hbA hS (vp_bv (by omega) (by omega)) dL_law_729 (lv_topi (fun zi6774 ez6775 => ?_))
            refine lv_aload_n hx hb dL_law_730 rfl (lv_at hl 0 rfl) ?_
            refine lv_iload_n hx hb dL_law_731 rfl (lv_at hl 3 rfl) ?_
            refine lv_iconst (v := 2) hx hb dL_law_732 (by decide) ?_
            refine lv_iadd hx hb dL_law_733 (lv_topi (fun zi6776 ea6777 => ?_))
            have bd6778 : (2 : Int) ≤ zi6776.toInt ∧ zi6776.toInt ≤ 3068 := b_iadd ea6777 bd5789 bc_2 (by decide) (by decide) (by decide) (by decide)
            have qe6779 : zi6776.toInt = (zi2891 : Int32).toInt + (2 : Int32).toInt := e_iadd ea6777 bd5789 bc_2 (by decide) (by decide)
            have qe6780 : zi6776.toInt = zi2891.toInt + 2 := by have ha : (2 : Int32).toInt = 2 := (by decide); rw [ha] at qe6779; exact qe6779
            refine va_sld hx hb hX hbl hbA hS (vp_bv (by omega) (by omega)) dL_law_734 (lv_topi (fun zi6781 ez6782 => ?_))
            refine lv_if_eq (tgt := 742) hx hb dL_law_735 (by decide) (fun cn6783 => ?_) (fun cn6783 => ?_)
            · skip
              have bd6784 : (0 : Int) ≤ zi6781.toInt ∧ zi6781.toInt ≤ 0 := r_eq_x cn6783 (b_all zi6781) bc_0 (by decide) (by decide)
              refine lv_iconst (v := 0) hx hb dL_law_742 (by decide) ?_
              refine lv_aload_n hx hb dL_law_743 rfl (lv_at hl 0 rfl) ?_
              refine lv_iload_n hx hb dL_law_744 rfl (lv_at hl 3 rfl) ?_
              refine lv_iconst (v := 3) hx hb dL_law_745 (by decide) ?_
              refine lv_iadd hx hb dL_law_746 (lv_topi (fun zi6785 ea6786 => ?_))
              have bd6787 : (3 : Int) ≤ zi6785.toInt ∧ zi6785.toInt ≤ 3069 := b_iadd ea6786 bd5789 bc_3 (by decide) (by decide) (by decide) (by decide)
              have qe6788 : zi6785.toInt = (zi2891 : Int32).toInt + (3 : Int32).toInt := e_iadd ea6786 bd5789 bc_3 (by decide) (by decide)
              have qe6789 : zi6785.toInt = zi2891.toInt + 3 := by have ha : (3 : Int32).toInt = 3 := (by decide); rw [ha] at qe6788; exact qe6788
              refine va_sld hx hb hX hbl hbA hS (vp_bv (by omega) (by omega)) dL_law_747 (lv_topi (fun zi6790 ez6791 => ?_))
              have pd6792 : LW hp6764 qa900 := LW_fr ok2893 kd2896 (show Fr [3003, 3004, 5003, 5004, 5005, 5006, 5007, 8000, 8001, 8002, 8003, 8004, 8005, 8006, 8008, 27000, 35000, 36000, 40000, 41000, 42000] K hp2892 hp6764 from (Fr.tr (Fr.rf) F6766 (by decide))) (by decide) pd2895
              refine kq_i hw hS hA (va_runV (As := [.int zi6774, .int 0, .int zi6790]) (rest := []) ⟨hx, hb, hml, hown, hT⟩ (cX12_orderAt_0 l G cy ev K ln Ls hW _ hp6764 ok6765 qa900 zi6774 0 zi6790 kd2896 (b_wid2 bc_0 (by decide) (by decide)) pd6792) (cwV 3 hT (good_V tb_1895 tb_1892 tb_1893 tb_1894 tb_122) rfl rfl rfl (by decide +kernel) ⟨Nat.le_of_ble_eq_true rfl, Nat.le_of_ble_eq_true rfl⟩) (pool_preV (ci := 12) hK hE hS hA hw hW kd2896 (by decide) rfl) rfl rfl hl.1 rfl (lv_room (Nat.le_of_ble_eq_true rfl)) dL_law_748 ⟨(show (400 + (gn - g0)) + 0 ≤ 600000 from by omega), (show (100000 + 14 * (gn - g0)) + 0 ≤ 7302250 from by omega)⟩) (fun zi6797 hp6793 H locs hq6796 hw hS => ?_)
              obtain ⟨ok6794, F6795⟩ := hq6796
              have hw : PW G cy K ln Ls A hp6793 H := hw
              refine lv_pop hx hb dL_law_751 rfl ?_
              refine lv_goto (tgt := 1044) hx hb dL_law_752 (by decide) ?_
              obtain ⟨zi6798, ea6799⟩ : ∃ z : Int32, z = zi2891 + 6 := ⟨_, rfl⟩
              have bd6800 : (6 : Int) ≤ zi6798.toInt ∧ zi6798.toInt ≤ 3072 := b_iadd ea6799 bd5789 bc_6 (by decide) (by decide) (by decide) (by decide)
              have qe6801 : zi6798.toInt = (zi2891 : Int32).toInt + (6 : Int32).toInt := e_iadd ea6799 bd5789 bc_6 (by decide) (by decide)
              have qe6802 : zi6798.toInt = zi2891.toInt + 6 := by have ha : (6 : Int32).toInt = 6 := (by decide); rw [ha] at qe6801; exact qe6801
              refine lv_iinc (v := zi6798) (lv' := [(3, .int zi6798), (0, .ref b), (1, .ref qa901), (2, .ref qa900)]) hx hb dL_law_1044 hl (k := 3) rfl ea6799.symm (by decide) rfl (fun ls hl => ?_)
              refine lv_goto (tgt := 18) hx hb dL_law_1047 (by decide) ?_
              have pd6803 : NSx K ln hp6793 gn := NSx_fr ok2893  (show Fr [3003, 3004, 5003, 5004, 5005, 5006, 5007, 8000, 8001, 8002, 8003, 8004, 8005, 8006, 8008, 13048, 13051, 13057, 27000, 35000, 36000, 40000, 41000, 42000, 90000, 91000, 93000, 96000, 97000] K hp2892 hp6793 from (Fr.tr (Fr.tr (Fr.rf) F6766 (by decide)) F6795 (by decide))) (by decide) pd2894
              have pd6804 : LW hp6793 qa900 := LW_fr ok6765 kd2896 (show Fr [13048, 13051, 13057, 90000, 91000, 93000, 96000, 97000] K hp6764 hp6793 from (Fr.tr (Fr.rf) F6795 (by decide))) (by decide) pd6792
              exact ih5774 K ln Ls gn hp6793 zi6798 _ _ ls (by have := hm5776; have := qe6802; omega) hW gex (FrX.tr gfx gex (FrX.of (show Fr [3003, 3004, 5003, 5004, 5005, 5006, 5007, 8000, 8001, 8002, 8003, 8004, 8005, 8006, 8008, 13048, 13051, 13057, 27000, 35000, 36000, 40000, 41000, 42000, 90000, 91000, 93000, 96000, 97000] K hp2892 hp6793 from (Fr.tr (Fr.tr (Fr.rf) F6766 (by decide)) F6795 (by decide)))) (by decide +kernel)) ok6794 pd6803 (by omega) pd6804 kd2896 kd2897 (b_wid2 bd6800 (by decide) (by decide)) (lv_sub hl [1, 2, 3, 0] rfl) hw hS
            · skip
              have tf6805 : (zi6781 : Int32).toInt ≠ (0 : Int32).toInt := fun e => cn6783 (Int32.toInt_inj.mp e)
              have := toi bc_0
              refine lv_iconst (v := 1) hx hb dL_law_738 (by decide) ?_
              refine lv_goto (tgt := 743) hx hb dL_law_739 (by decide) ?_
              refine lv_aload_n hx hb dL_law_743 rfl (lv_at hl 0 rfl) ?_
              refine lv_iload_n hx hb dL_law_744 rfl (lv_at hl 3 rfl) ?_
              refine lv_iconst (v := 3) hx hb dL_law_745 (by decide) ?_
              refine lv_iadd hx hb dL_law_746 (lv_topi (fun zi6806 ea6807 => ?_))
              have bd6808 : (3 : Int) ≤ zi6806.toInt ∧ zi6806.toInt ≤ 3069 := b_iadd ea6807 bd5789 bc_3 (by decide) (by decide) (by decide) (by decide)
              have qe6809 : zi6806.toInt = (zi2891 : Int32).toInt + (3 : Int32).toInt := e_iadd ea6807 bd5789 bc_3 (by decide) (by decide)
              have qe6810 : zi6806.toInt = zi2891.toInt + 3 := by have ha : (3 : Int32).toInt = 3 := (by decide); rw [ha] at qe6809; exact qe6809
              refine va_sld hx hb hX hbl hbA hS (vp_bv (by omega) (by omega)) dL_law_747 (lv_topi (fun zi6811 ez6812 => ?_))
              have pd6813 : LW hp6764 qa900 := LW_fr ok2893 kd2896 (show Fr [3003, 3004, 5003, 5004, 5005, 5006, 5007, 8000, 8001, 8002, 8003, 8004, 8005, 8006, 8008, 27000, 35000, 36000, 40000, 41000, 42000] K hp2892 hp6764 from (Fr.tr (Fr.rf) F6766 (by decide))) (by decide) pd2895
              refine kq_i hw hS hA (va_runV (As := [.int zi6774, .int 1, .int zi6811]) (rest := []) ⟨hx, hb, hml, hown, hT⟩ (cX12_orderAt_0 l G cy ev K ln Ls hW _ hp6764 ok6765 qa900 zi6774 1 zi6811 kd2896 (b_wid2 bc_1 (by decide) (by decide)) pd6813) (cwV 3 hT (good_V tb_1895 tb_1892 tb_1893 tb_1894 tb_122) rfl rfl rfl (by decide +kernel) ⟨Nat.le_of_ble_eq_true rfl, Nat.le_of_ble_eq_true rfl⟩) (pool_preV (ci := 12) hK hE hS hA hw hW kd2896 (by decide) rfl) rfl rfl hl.1 rfl (lv_room (Nat.le_of_ble_eq_true rfl)) dL_law_748 ⟨(show (400 + (gn - g0)) + 0 ≤ 600000 from by omega), (show (100000 + 14 * (gn - g0)) + 0 ≤ 7302250 from by omega)⟩) (fun zi6818 hp6814 H locs hq6817 hw hS => ?_)
              obtain ⟨ok6815, F6816⟩ := hq6817
              have hw : PW G cy K ln Ls A hp6814 H := hw
              refine lv_pop hx hb dL_law_751 rfl ?_
              refine lv_goto (tgt := 1044) hx hb dL_law_752 (by decide) ?_
              obtain ⟨zi6819, ea6820⟩ : ∃ z : Int32, z = zi2891 + 6 := ⟨_, rfl⟩
              have bd6821 : (6 : Int) ≤ zi6819.toInt ∧ zi6819.toInt ≤ 3072 := b_iadd ea6820 bd5789 bc_6 (by decide) (by decide) (by decide) (by decide)
              have qe6822 : zi6819.toInt = (zi2891 : Int32).toInt + (6 : Int32).toInt := e_iadd ea6820 bd5789 bc_6 (by decide) (by decide)
              have qe6823 : zi6819.toInt = zi2891.toInt + 6 := by have ha : (6 : Int32).toInt = 6 := (by decide); rw [ha] at qe6822; exact qe6822
              refine lv_iinc (v := zi6819) (lv' := [(3, .int zi6819), (0, .ref b), (1, .ref qa901), (2, .ref qa900)]) hx hb dL_law_1044 hl (k := 3) rfl ea6820.symm (by decide) rfl (fun ls hl => ?_)
              refine lv_goto (tgt := 18) hx hb dL_law_1047 (by decide) ?_
              have pd6824 : NSx K ln hp6814 gn := NSx_fr ok2893  (show Fr [3003, 3004, 5003, 5004, 5005, 5006, 5007, 8000, 8001, 8002, 8003, 8004, 8005, 8006, 8008, 13048, 13051, 13057, 27000, 35000, 36000, 40000, 41000, 42000, 90000, 91000, 93000, 96000, 97000] K hp2892 hp6814 from (Fr.tr (Fr.tr (Fr.rf) F6766 (by decide)) F6816 (by decide))) (by decide) pd2894
              have pd6825 : LW hp6814 qa900 := LW_fr ok6765 kd2896 (show Fr [13048, 13051, 13057, 90000, 91000, 93000, 96000, 97000] K hp6764 hp6814 from (Fr.tr (Fr.rf) F6816 (by decide))) (by decide) pd6813
              exact ih5774 K ln Ls gn hp6814 zi6819 _ _ ls (by have := hm5776; have := qe6823; omega) hW gex (FrX.tr gfx gex (FrX.of (show Fr [3003, 3004, 5003, 5004, 5005, 5006, 5007, 8000, 8001, 8002, 8003, 8004, 8005, 8006, 8008, 13048, 13051, 13057, 27000, 35000, 36000, 40000, 41000, 42000, 90000, 91000, 93000, 96000, 97000] K hp2892 hp6814 from (Fr.tr (Fr.tr (Fr.rf) F6766 (by decide)) F6816 (by decide)))) (by decide +kernel)) ok6815 pd6824 (by omega) pd6825 kd2896 kd2897 (b_wid2 bd6821 (by decide) (by decide)) (lv_sub hl [1, 2, 3, 0] rfl) hw hS
        by_cases cn5816 : zi5794 = 19
        · skip
          refine lv_tableIn (tgt := 755) hx hb dL_law_33 (by rw [cn5816]; decide) (by rw [cn5816]; decide) (by rw [cn5816]; rfl) (by decide) ?_
          have bd6826 : (19 : Int) ≤ zi5794.toInt ∧ zi5794.toInt ≤ 19 := r_eq_x cn5816 bd5796 bc_19 (by decide) (by decide)
          refine lv_aload_n hx hb dL_law_755 rfl (lv_at hl 1 rfl) ?_
          refine lv_aload_n hx hb dL_law_756 rfl (lv_at hl 0 rfl) ?_
          refine lv_iload_n hx hb dL_law_757 rfl (lv_at hl 3 rfl) ?_
          refine lv_iconst (v := 1) hx hb dL_law_758 (by decide) ?_
          refine lv_iadd hx hb dL_law_759 (lv_topi (fun zi6827 ea6828 => ?_))
          have bd6829 : (1 : Int) ≤ zi6827.toInt ∧ zi6827.toInt ≤ 3067 := b_iadd ea6828 bd5789 bc_1 (by decide) (by decide) (by decide) (by decide)
          have qe6830 : zi6827.toInt = (zi2891 : Int32).toInt + (1 : Int32).toInt := e_iadd ea6828 bd5789 bc_1 (by decide) (by decide)
          have qe6831 : zi6827.toInt = zi2891.toInt + 1 := by have ha : (1 : Int32).toInt = 1 := (by decide); rw [ha] at qe6830; exact qe6830
          refine va_sld hx hb hX hbl hbA hS (vp_bv (by omega) (by omega)) dL_law_760 (lv_topi (fun zi6832 ez6833 => ?_))
          refine lv_aload_n hx hb dL_law_761 rfl (lv_at hl 0 rfl) ?_
          refine lv_iload_n hx hb dL_law_762 rfl (lv_at hl 3 rfl) ?_
          refine lv_iconst (v := 2) hx hb dL_law_763 (by decide) ?_
          refine lv_iadd hx hb dL_law_764 (lv_topi (fun zi6834 ea6835 => ?_))
          have bd6836 : (2 : Int) ≤ zi6834.toInt ∧ zi6834.toInt ≤ 3068 := b_iadd ea6835 bd5789 bc_2 (by decide) (by decide) (by decide) (by decide)
          have qe6837 : zi6834.toInt = (zi2891 : Int32).toInt + (2 : Int32).toInt := e_iadd ea6835 bd5789 bc_2 (by decide) (by decide)
          have qe6838 : zi6834.toInt = zi2891.toInt + 2 := by have ha : (2 : Int32).toInt = 2 := (by decide); rw [ha] at qe6837; exact qe6837
          refine va_sld hx hb hX hbl hbA hS (vp_bv (by omega) (by omega)) dL_law_765 (lv_topi (fun zi6839 ez6840 => ?_))
          refine kq_i hw hS hA (va_runV (As := [.int zi6832, .int zi6839]) (rest := []) ⟨hx, hb, hml, hown, hT⟩ (cX11_never_0 l G cy ev K ln Ls hW _ hp2892 ok2893 qa901 zi6832 zi6839 kd2897) (cwV 2 hT (good_V tb_1243 tb_1240 tb_1241 tb_1242 tb_105) rfl rfl rfl (by decide +kernel) ⟨Nat.le_of_ble_eq_true rfl, Nat.le_of_ble_eq_true rfl⟩) (pool_preV (ci := 11) hK hE hS hA hw hW kd2897 (by decide) rfl) rfl rfl hl.1 rfl (lv_room (Nat.le_of_ble_eq_true rfl)) dL_law_766 ⟨(show (400 + (gn - g0)) + 0 ≤ 600000 from by omega), (show (100000 + 14 * (gn - g0)) + 0 ≤ 7302250 from by omega)⟩) (fun zi6845 hp6841 H locs hq6844 hw hS => ?_)
          obtain ⟨ok6842, F6843, bd6846⟩ := hq6844
          have hw : PW G cy K ln Ls A hp6841 H := hw
          refine lv_pop hx hb dL_law_769 rfl ?_
          refine lv_aload_n hx hb dL_law_770 rfl (lv_at hl 2 rfl) ?_
          refine lv_aload_n hx hb dL_law_771 rfl (lv_at hl 0 rfl) ?_
          refine lv_iload_n hx hb dL_law_772 rfl (lv_at hl 3 rfl) ?_
          refine lv_iconst (v := 1) hx hb dL_law_773 (by decide) ?_
          refine lv_iadd hx hb dL_law_774 (lv_topi (fun zi6847 ea6848 => ?_))
          have bd6849 : (1 : Int) ≤ zi6847.toInt ∧ zi6847.toInt ≤ 3067 := b_iadd ea6848 bd5789 bc_1 (by decide) (by decide) (by decide) (by decide)
          have qe6850 : zi6847.toInt = (zi2891 : Int32).toInt + (1 : Int32).toInt := e_iadd ea6848 bd5789 bc_1 (by decide) (by decide)
          have qe6851 : zi6847.toInt = zi2891.toInt + 1 := by have ha : (1 : Int32).toInt = 1 := (by decide); rw [ha] at qe6850; exact qe6850
          refine va_sld hx hb hX hbl hbA hS (vp_bv (by omega) (by omega)) dL_law_775 (lv_topi (fun zi6852 ez6853 => ?_))
          refine lv_aload_n hx hb dL_law_776 rfl (lv_at hl 0 rfl) ?_
          refine lv_iload_n hx hb dL_law_777 rfl (lv_at hl 3 rfl) ?_
          refine lv_iconst (v := 2) hx hb dL_law_778 (by decide) ?_
          refine lv_iadd hx hb dL_law_779 (lv_topi (fun zi6854 ea6855 => ?_))
          have bd6856 : (2 : Int) ≤ zi6854.toInt ∧ zi6854.toInt ≤ 3068 := b_iadd ea6855 bd5789 bc_2 (by decide) (by decide) (by decide) (by decide)
          have qe6857 : zi6854.toInt = (zi2891 : Int32).toInt + (2 : Int32).toInt := e_iadd ea6855 bd5789 bc_2 (by decide) (by decide)
          have qe6858 : zi6854.toInt = zi2891.toInt + 2 := by have ha : (2 : Int32).toInt = 2 := (by decide); rw [ha] at qe6857; exact qe6857
          refine va_sld hx hb hX hbl hbA hS (vp_bv (by omega) (by omega)) dL_law_780 (lv_topi (fun zi6859 ez6860 => ?_))
          have pd6861 : LW hp6841 qa900 := LW_fr ok2893 kd2896 (show Fr [3003, 3004, 8000, 8001, 8002, 8003, 8004, 8005, 8006, 8007, 8008, 27000, 40000, 41000, 42000] K hp2892 hp6841 from (Fr.tr (Fr.rf) F6843 (by decide))) (by decide) pd2895
          refine kq_i hw hS hA (va_runV (As := [.int zi6852, .int zi6859]) (rest := []) ⟨hx, hb, hml, hown, hT⟩ (cX12_never_0 l G cy ev K ln Ls hW _ hp6841 ok6842 qa900 zi6852 zi6859 kd2896 pd6861) (cwV 2 hT (good_V tb_1900 tb_1897 tb_1898 tb_1899 tb_122) rfl rfl rfl (by decide +kernel) ⟨Nat.le_of_ble_eq_true rfl, Nat.le_of_ble_eq_true rfl⟩) (pool_preV (ci := 12) hK hE hS hA hw hW kd2896 (by decide) rfl) rfl rfl hl.1 rfl (lv_room (Nat.le_of_ble_eq_true rfl)) dL_law_781 ⟨(show (400 + (gn - g0)) + 0 ≤ 600000 from by omega), (show (100000 + 14 * (gn - g0)) + 0 ≤ 7302250 from by omega)⟩) (fun zi6866 hp6862 H locs hq6865 hw hS => ?_)
          obtain ⟨ok6863, F6864, bd6867⟩ := hq6865
          have hw : PW G cy K ln Ls A hp6862 H := hw
          refine lv_pop hx hb dL_law_784 rfl ?_
          refine lv_goto (tgt := 1044) hx hb dL_law_785 (by decide) ?_
          obtain ⟨zi6868, ea6869⟩ : ∃ z : Int32, z = zi2891 + 6 := ⟨_, rfl⟩
          have bd6870 : (6 : Int) ≤ zi6868.toInt ∧ zi6868.toInt ≤ 3072 := b_iadd ea6869 bd5789 bc_6 (by decide) (by decide) (by decide) (by decide)
          have qe6871 : zi6868.toInt = (zi2891 : Int32).toInt + (6 : Int32).toInt := e_iadd ea6869 bd5789 bc_6 (by decide) (by decide)
          have qe6872 : zi6868.toInt = zi2891.toInt + 6 := by have ha : (6 : Int32).toInt = 6 := (by decide); rw [ha] at qe6871; exact qe6871
          refine lv_iinc (v := zi6868) (lv' := [(3, .int zi6868), (0, .ref b), (1, .ref qa901), (2, .ref qa900)]) hx hb dL_law_1044 hl (k := 3) rfl ea6869.symm (by decide) rfl (fun ls hl => ?_)
          refine lv_goto (tgt := 18) hx hb dL_law_1047 (by decide) ?_
          have pd6873 : NSx K ln hp6862 gn := NSx_fr ok2893  (show Fr [3003, 3004, 8000, 8001, 8002, 8003, 8004, 8005, 8006, 8007, 8008, 13048, 13051, 13052, 13057, 27000, 40000, 41000, 42000, 90000, 91000, 93000, 96000] K hp2892 hp6862 from (Fr.tr (Fr.tr (Fr.rf) F6843 (by decide)) F6864 (by decide))) (by decide) pd2894
          have pd6874 : LW hp6862 qa900 := LW_fr ok6842 kd2896 (show Fr [13048, 13051, 13052, 13057, 90000, 91000, 93000, 96000] K hp6841 hp6862 from (Fr.tr (Fr.rf) F6864 (by decide))) (by decide) pd6861
          exact ih5774 K ln Ls gn hp6862 zi6868 _ _ ls (by have := hm5776; have := qe6872; omega) hW gex (FrX.tr gfx gex (FrX.of (show Fr [3003, 3004, 8000, 8001, 8002, 8003, 8004, 8005, 8006, 8007, 8008, 13048, 13051, 13052, 13057, 27000, 40000, 41000, 42000, 90000, 91000, 93000, 96000] K hp2892 hp6862 from (Fr.tr (Fr.tr (Fr.rf) F6843 (by decide)) F6864 (by decide)))) (by decide +kernel)) ok6863 pd6873 (by omega) pd6874 kd2896 kd2897 (b_wid2 bd6870 (by decide) (by decide)) (lv_sub hl [1, 2, 3, 0] rfl) hw hS
        by_cases cn5817 : zi5794 = 20
        · skip
          refine lv_tableIn (tgt := 788) hx hb dL_law_33 (by rw [cn5817]; decide) (by rw [cn5817]; decide) (by rw [cn5817]; rfl) (by decide) ?_
          have bd6875 : (20 : Int) ≤ zi5794.toInt ∧ zi5794.toInt ≤ 20 := r_eq_x cn5817 bd5796 bc_20 (by decide) (by decide)
          refine lv_aload_n hx hb dL_law_788 rfl (lv_at hl 1 rfl) ?_
          refine kq_i hw hS hA (va_runV (As := []) (rest := []) ⟨hx, hb, hml, hown, hT⟩ (cX11_smallest_0 l G cy ev K ln Ls hW _ hp2892 ok2893 qa901 kd2897) (cwV 0 hT (good_V tb_1255 tb_1252 tb_1253 tb_1254 tb_105) rfl rfl rfl (by decide +kernel) ⟨Nat.le_of_ble_eq_true rfl, Nat.le_of_ble_eq_true rfl⟩) (pool_preV (ci := 11) hK hE hS hA hw hW kd2897 (by decide) rfl) rfl rfl hl.1 rfl (lv_room (Nat.le_of_ble_eq_true rfl)) dL_law_789 ⟨(show (400 + (gn - g0)) + 0 ≤ 600000 from by omega), (show (100000 + 14 * (gn - g0)) + 0 ≤ 7302250 from by omega)⟩) (fun zi6880 hp6876 H locs hq6879 hw hS => ?_)
          obtain ⟨ok6877, F6878⟩ := hq6879
          have hw : PW G cy K ln Ls A hp6876 H := hw
          refine lv_pop hx hb dL_law_792 rfl ?_
          refine lv_aload_n hx hb dL_law_793 rfl (lv_at hl 2 rfl) ?_
          refine kq_i hw hS hA (va_runV (As := []) (rest := []) ⟨hx, hb, hml, hown, hT⟩ (cX12_smallest_0 l G cy ev K ln Ls hW _ hp6876 ok6877 qa900 kd2896) (cwV 0 hT (good_V tb_1904 tb_1901 tb_1902 tb_1903 tb_122) rfl rfl rfl (by decide +kernel) ⟨Nat.le_of_ble_eq_true rfl, Nat.le_of_ble_eq_true rfl⟩) (pool_preV (ci := 12) hK hE hS hA hw hW kd2896 (by decide) rfl) rfl rfl hl.1 rfl (lv_room (Nat.le_of_ble_eq_true rfl)) dL_law_794 ⟨(show (400 + (gn - g0)) + 0 ≤ 600000 from by omega), (show (100000 + 14 * (gn - g0)) + 0 ≤ 7302250 from by omega)⟩) (fun zi6885 hp6881 H locs hq6884 hw hS => ?_)
          obtain ⟨ok6882, F6883, bd6886⟩ := hq6884
          have hw : PW G cy K ln Ls A hp6881 H := hw
          refine lv_pop hx hb dL_law_797 rfl ?_
          refine lv_goto (tgt := 1044) hx hb dL_law_798 (by decide) ?_
          obtain ⟨zi6887, ea6888⟩ : ∃ z : Int32, z = zi2891 + 6 := ⟨_, rfl⟩
          have bd6889 : (6 : Int) ≤ zi6887.toInt ∧ zi6887.toInt ≤ 3072 := b_iadd ea6888 bd5789 bc_6 (by decide) (by decide) (by decide) (by decide)
          have qe6890 : zi6887.toInt = (zi2891 : Int32).toInt + (6 : Int32).toInt := e_iadd ea6888 bd5789 bc_6 (by decide) (by decide)
          have qe6891 : zi6887.toInt = zi2891.toInt + 6 := by have ha : (6 : Int32).toInt = 6 := (by decide); rw [ha] at qe6890; exact qe6890
          refine lv_iinc (v := zi6887) (lv' := [(3, .int zi6887), (0, .ref b), (1, .ref qa901), (2, .ref qa900)]) hx hb dL_law_1044 hl (k := 3) rfl ea6888.symm (by decide) rfl (fun ls hl => ?_)
          refine lv_goto (tgt := 18) hx hb dL_law_1047 (by decide) ?_
          have pd6892 : NSx K ln hp6881 gn := NSx_fr ok2893  (show Fr [7003, 7004, 7005, 37000, 38000, 39000, 98000] K hp2892 hp6881 from (Fr.tr (Fr.tr (Fr.rf) F6878 (by decide)) F6883 (by decide))) (by decide) pd2894
          have pd6893 : LW hp6881 qa900 := LW_fr ok2893 kd2896 (show Fr [7003, 7004, 7005, 37000, 38000, 39000, 98000] K hp2892 hp6881 from (Fr.tr (Fr.tr (Fr.rf) F6878 (by decide)) F6883 (by decide))) (by decide) pd2895
          exact ih5774 K ln Ls gn hp6881 zi6887 _ _ ls (by have := hm5776; have := qe6891; omega) hW gex (FrX.tr gfx gex (FrX.of (show Fr [7003, 7004, 7005, 37000, 38000, 39000, 98000] K hp2892 hp6881 from (Fr.tr (Fr.tr (Fr.rf) F6878 (by decide)) F6883 (by decide)))) (by decide +kernel)) ok6882 pd6892 (by omega) pd6893 kd2896 kd2897 (b_wid2 bd6889 (by decide) (by decide)) (lv_sub hl [1, 2, 3, 0] rfl) hw hS
        by_cases cn5818 : zi5794 = 21
        · skip
          refine lv_tableIn (tgt := 801) hx hb dL_law_33 (by rw [cn5818]; decide) (by rw [cn5818]; decide) (by rw [cn5818]; rfl) (by decide) ?_
          have bd6894 : (21 : Int) ≤ zi5794.toInt ∧ zi5794.toInt ≤ 21 := r_eq_x cn5818 bd5796 bc_21 (by decide) (by decide)
          refine lv_aload_n hx hb dL_law_801 rfl (lv_at hl 1 rfl) ?_
          refine lv_aload_n hx hb dL_law_802 rfl (lv_at hl 0 rfl) ?_
          refine lv_iload_n hx hb dL_law_803 rfl (lv_at hl 3 rfl) ?_
          refine lv_iconst (v := 1) hx hb dL_law_804 (by decide) ?_
          refine lv_iadd hx hb dL_law_805 (lv_topi (fun zi6895 ea6896 => ?_))
          have bd6897 : (1 : Int) ≤ zi6895.toInt ∧ zi6895.toInt ≤ 3067 := b_iadd ea6896 bd5789 bc_1 (by decide) (by decide) (by decide) (by decide)
          have qe6898 : zi6895.toInt = (zi2891 : Int32).toInt + (1 : Int32).toInt := e_iadd ea6896 bd5789 bc_1 (by decide) (by decide)
          have qe6899 : zi6895.toInt = zi2891.toInt + 1 := by have ha : (1 : Int32).toInt = 1 := (by decide); rw [ha] at qe6898; exact qe6898
          refine va_sld hx hb hX hbl hbA hS (vp_bv (by omega) (by omega)) dL_law_806 (lv_topi (fun zi6900 ez6901 => ?_))
          refine kq_i hw hS hA (va_runV (As := [.int zi6900]) (rest := []) ⟨hx, hb, hml, hown, hT⟩ (cX11_states_0 l G cy ev K ln Ls hW _ hp2892 ok2893 qa901 zi6900 kd2897) (cwV 1 hT (good_V tb_1281 tb_1278 tb_1279 tb_1280 tb_105) rfl rfl rfl (by decide +kernel) ⟨Nat.le_of_ble_eq_true rfl, Nat.le_of_ble_eq_true rfl⟩) (pool_preV (ci := 11) hK hE hS hA hw hW kd2897 (by decide) rfl) rfl rfl hl.1 rfl (lv_room (Nat.le_of_ble_eq_true rfl)) dL_law_807 ⟨(show (400 + (gn - g0)) + 0 ≤ 600000 from by omega), (show (100000 + 14 * (gn - g0)) + 0 ≤ 7302250 from by omega)⟩) (fun zi6906 hp6902 H locs hq6905 hw hS => ?_)
          obtain ⟨ok6903, F6904, bd6907⟩ := hq6905
          obtain rfl : hp2892 = hp6902 := (Fr.nil F6904).symm
          have hw : PW G cy K ln Ls A hp2892 H := hw
          refine lv_pop hx hb dL_law_810 rfl ?_
          refine lv_aload_n hx hb dL_law_811 rfl (lv_at hl 2 rfl) ?_
          refine lv_aload_n hx hb dL_law_812 rfl (lv_at hl 0 rfl) ?_
          refine lv_iload_n hx hb dL_law_813 rfl (lv_at hl 3 rfl) ?_
          refine lv_iconst (v := 1) hx hb dL_law_814 (by decide) ?_
          refine lv_iadd hx hb dL_law_815 (lv_topi (fun zi6908 ea6909 => ?_))
          have bd6910 : (1 : Int) ≤ zi6908.toInt ∧ zi6908.toInt ≤ 3067 := b_iadd ea6909 bd5789 bc_1 (by decide) (by decide) (by decide) (by decide)
          have qe6911 : zi6908.toInt = (zi2891 : Int32).toInt + (1 : Int32).toInt := e_iadd ea6909 bd5789 bc_1 (by decide) (by decide)
          have qe6912 : zi6908.toInt = zi2891.toInt + 1 := by have ha : (1 : Int32).toInt = 1 := (by decide); rw [ha] at qe6911; exact qe6911
          refine va_sld hx hb hX hbl hbA hS (vp_bv (by omega) (by omega)) dL_law_816 (lv_topi (fun zi6913 ez6914 => ?_))
          refine kq_i hw hS hA (va_runV (As := [.int zi6913]) (rest := []) ⟨hx, hb, hml, hown, hT⟩ (cX12_states_0 l G cy ev K ln Ls hW _ hp2892 ok2893 qa900 zi6913 kd2896) (cwV 1 hT (good_V tb_1913 tb_1910 tb_1911 tb_1912 tb_122) rfl rfl rfl (by decide +kernel) ⟨Nat.le_of_ble_eq_true rfl, Nat.le_of_ble_eq_true rfl⟩) (pool_preV (ci := 12) hK hE hS hA hw hW kd2896 (by decide) rfl) rfl rfl hl.1 rfl (lv_room (Nat.le_of_ble_eq_true rfl)) dL_law_817 ⟨(show (400 + (gn - g0)) + 0 ≤ 600000 from by omega), (show (100000 + 14 * (gn - g0)) + 0 ≤ 7302250 from by omega)⟩) (fun zi6919 hp6915 H locs hq6918 hw hS => ?_)
          obtain ⟨ok6916, F6917⟩ := hq6918
          obtain rfl : hp2892 = hp6915 := (Fr.nil F6917).symm
          have hw : PW G cy K ln Ls A hp2892 H := hw
          refine lv_pop hx hb dL_law_820 rfl ?_
          refine lv_goto (tgt := 1044) hx hb dL_law_821 (by decide) ?_
          obtain ⟨zi6920, ea6921⟩ : ∃ z : Int32, z = zi2891 + 6 := ⟨_, rfl⟩
          have bd6922 : (6 : Int) ≤ zi6920.toInt ∧ zi6920.toInt ≤ 3072 := b_iadd ea6921 bd5789 bc_6 (by decide) (by decide) (by decide) (by decide)
          have qe6923 : zi6920.toInt = (zi2891 : Int32).toInt + (6 : Int32).toInt := e_iadd ea6921 bd5789 bc_6 (by decide) (by decide)
          have qe6924 : zi6920.toInt = zi2891.toInt + 6 := by have ha : (6 : Int32).toInt = 6 := (by decide); rw [ha] at qe6923; exact qe6923
          refine lv_iinc (v := zi6920) (lv' := [(3, .int zi6920), (0, .ref b), (1, .ref qa901), (2, .ref qa900)]) hx hb dL_law_1044 hl (k := 3) rfl ea6921.symm (by decide) rfl (fun ls hl => ?_)
          refine lv_goto (tgt := 18) hx hb dL_law_1047 (by decide) ?_
          exact ih5774 K ln Ls gn hp2892 zi6920 _ _ ls (by have := hm5776; have := qe6924; omega) hW gex gfx ok2893 pd2894 (by omega) pd2895 kd2896 kd2897 (b_wid2 bd6922 (by decide) (by decide)) (lv_sub hl [1, 2, 3, 0] rfl) hw hS
        by_cases cn5819 : zi5794 = 22
        · skip
          refine lv_tableIn (tgt := 824) hx hb dL_law_33 (by rw [cn5819]; decide) (by rw [cn5819]; decide) (by rw [cn5819]; rfl) (by decide) ?_
          have bd6925 : (22 : Int) ≤ zi5794.toInt ∧ zi5794.toInt ≤ 22 := r_eq_x cn5819 bd5796 bc_22 (by decide) (by decide)
          refine lv_aload_n hx hb dL_law_824 rfl (lv_at hl 1 rfl) ?_
          refine lv_aload_n hx hb dL_law_825 rfl (lv_at hl 0 rfl) ?_
          refine lv_iload_n hx hb dL_law_826 rfl (lv_at hl 3 rfl) ?_
          refine lv_iconst (v := 1) hx hb dL_law_827 (by decide) ?_
          refine lv_iadd hx hb dL_law_828 (lv_topi (fun zi6926 ea6927 => ?_))
          have bd6928 : (1 : Int) ≤ zi6926.toInt ∧ zi6926.toInt ≤ 3067 := b_iadd ea6927 bd5789 bc_1 (by decide) (by decide) (by decide) (by decide)
          have qe6929 : zi6926.toInt = (zi2891 : Int32).toInt + (1 : Int32).toInt := e_iadd ea6927 bd5789 bc_1 (by decide) (by decide)
          have qe6930 : zi6926.toInt = zi2891.toInt + 1 := by have ha : (1 : Int32).toInt = 1 := (by decide); rw [ha] at qe6929; exact qe6929
          refine va_sld hx hb hX hbl hbA hS (vp_bv (by omega) (by omega)) dL_law_829 (lv_topi (fun zi6931 ez6932 => ?_))
          refine kq_i hw hS hA (va_runV (As := [.int zi6931]) (rest := []) ⟨hx, hb, hml, hown, hT⟩ (cX11_looks_0 l G cy ev K ln Ls hW _ hp2892 ok2893 qa901 zi6931 kd2897) (cwV 1 hT (good_V tb_1285 tb_1282 tb_1283 tb_1284 tb_105) rfl rfl rfl (by decide +kernel) ⟨Nat.le_of_ble_eq_true rfl, Nat.le_of_ble_eq_true rfl⟩) (pool_preV (ci := 11) hK hE hS hA hw hW kd2897 (by decide) rfl) rfl rfl hl.1 rfl (lv_room (Nat.le_of_ble_eq_true rfl)) dL_law_830 ⟨(show (400 + (gn - g0)) + 0 ≤ 600000 from by omega), (show (100000 + 14 * (gn - g0)) + 0 ≤ 7302250 from by omega)⟩) (fun zi6937 hp6933 H locs hq6936 hw hS => ?_)
          obtain ⟨ok6934, F6935⟩ := hq6936
          have hw : PW G cy K ln Ls A hp6933 H := hw
          refine lv_pop hx hb dL_law_833 rfl ?_
          refine lv_aload_n hx hb dL_law_834 rfl (lv_at hl 2 rfl) ?_
          refine lv_aload_n hx hb dL_law_835 rfl (lv_at hl 0 rfl) ?_
          refine lv_iload_n hx hb dL_law_836 rfl (lv_at hl 3 rfl) ?_
          refine lv_iconst (v := 1) hx hb dL_law_837 (by decide) ?_
          refine lv_iadd hx hb dL_law_838 (lv_topi (fun zi6938 ea6939 => ?_))
          have bd6940 : (1 : Int) ≤ zi6938.toInt ∧ zi6938.toInt ≤ 3067 := b_iadd ea6939 bd5789 bc_1 (by decide) (by decide) (by decide) (by decide)
          have qe6941 : zi6938.toInt = (zi2891 : Int32).toInt + (1 : Int32).toInt := e_iadd ea6939 bd5789 bc_1 (by decide) (by decide)
          have qe6942 : zi6938.toInt = zi2891.toInt + 1 := by have ha : (1 : Int32).toInt = 1 := (by decide); rw [ha] at qe6941; exact qe6941
          refine va_sld hx hb hX hbl hbA hS (vp_bv (by omega) (by omega)) dL_law_839 (lv_topi (fun zi6943 ez6944 => ?_))
          refine kq_i hw hS hA (va_runV (As := [.int zi6943]) (rest := []) ⟨hx, hb, hml, hown, hT⟩ (cX12_looks_0 l G cy ev K ln Ls hW _ hp6933 ok6934 qa900 zi6943 kd2896) (cwV 1 hT (good_V tb_1917 tb_1914 tb_1915 tb_1916 tb_122) rfl rfl rfl (by decide +kernel) ⟨Nat.le_of_ble_eq_true rfl, Nat.le_of_ble_eq_true rfl⟩) (pool_preV (ci := 12) hK hE hS hA hw hW kd2896 (by decide) rfl) rfl rfl hl.1 rfl (lv_room (Nat.le_of_ble_eq_true rfl)) dL_law_840 ⟨(show (400 + (gn - g0)) + 0 ≤ 600000 from by omega), (show (100000 + 14 * (gn - g0)) + 0 ≤ 7302250 from by omega)⟩) (fun zi6949 hp6945 H locs hq6948 hw hS => ?_)
          obtain ⟨ok6946, F6947, bd6950⟩ := hq6948
          obtain rfl : hp6933 = hp6945 := (Fr.nil F6947).symm
          have hw : PW G cy K ln Ls A hp6933 H := hw
          refine lv_pop hx hb dL_law_843 rfl ?_
          refine lv_goto (tgt := 1044) hx hb dL_law_844 (by decide) ?_
          obtain ⟨zi6951, ea6952⟩ : ∃ z : Int32, z = zi2891 + 6 := ⟨_, rfl⟩
          have bd6953 : (6 : Int) ≤ zi6951.toInt ∧ zi6951.toInt ≤ 3072 := b_iadd ea6952 bd5789 bc_6 (by decide) (by decide) (by decide) (by decide)
          have qe6954 : zi6951.toInt = (zi2891 : Int32).toInt + (6 : Int32).toInt := e_iadd ea6952 bd5789 bc_6 (by decide) (by decide)
          have qe6955 : zi6951.toInt = zi2891.toInt + 6 := by have ha : (6 : Int32).toInt = 6 := (by decide); rw [ha] at qe6954; exact qe6954
          refine lv_iinc (v := zi6951) (lv' := [(3, .int zi6951), (0, .ref b), (1, .ref qa901), (2, .ref qa900)]) hx hb dL_law_1044 hl (k := 3) rfl ea6952.symm (by decide) rfl (fun ls hl => ?_)
          refine lv_goto (tgt := 18) hx hb dL_law_1047 (by decide) ?_
          have pd6956 : NSx K ln hp6933 gn := NSx_fr ok2893  (show Fr [7003, 7004, 7005, 37000, 38000, 39000] K hp2892 hp6933 from (Fr.tr (Fr.rf) F6935 (by decide))) (by decide) pd2894
          have pd6957 : LW hp6933 qa900 := LW_fr ok2893 kd2896 (show Fr [7003, 7004, 7005, 37000, 38000, 39000] K hp2892 hp6933 from (Fr.tr (Fr.rf) F6935 (by decide))) (by decide) pd2895
          exact ih5774 K ln Ls gn hp6933 zi6951 _ _ ls (by have := hm5776; have := qe6955; omega) hW gex (FrX.tr gfx gex (FrX.of (show Fr [7003, 7004, 7005, 37000, 38000, 39000] K hp2892 hp6933 from (Fr.tr (Fr.rf) F6935 (by decide)))) (by decide +kernel)) ok6934 pd6956 (by omega) pd6957 kd2896 kd2897 (b_wid2 bd6953 (by decide) (by decide)) (lv_sub hl [1, 2, 3, 0] rfl) hw hS
        by_cases cn5820 : zi5794 = 23
        · skip
          refine lv_tableIn (tgt := 847) hx hb dL_law_33 (by rw [cn5820]; decide) (by rw [cn5820]; decide) (by rw [cn5820]; rfl) (by decide) ?_
          have bd6958 : (23 : Int) ≤ zi5794.toInt ∧ zi5794.toInt ≤ 23 := r_eq_x cn5820 bd5796 bc_23 (by decide) (by decide)
          refine lv_aload_n hx hb dL_law_847 rfl (lv_at hl 1 rfl) ?_
          refine lv_aload_n hx hb dL_law_848 rfl (lv_at hl 0 rfl) ?_
          refine lv_iload_n hx hb dL_law_849 rfl (lv_at hl 3 rfl) ?_
          refine lv_iconst (v := 1) hx hb dL_law_850 (by decide) ?_
          refine lv_iadd hx hb dL_law_851 (lv_topi (fun zi6959 ea6960 => ?_))
          have bd6961 : (1 : Int) ≤ zi6959.toInt ∧ zi6959.toInt ≤ 3067 := b_iadd ea6960 bd5789 bc_1 (by decide) (by decide) (by decide) (by decide)
          have qe6962 : zi6959.toInt = (zi2891 : Int32).toInt + (1 : Int32).toInt := e_iadd ea6960 bd5789 bc_1 (by decide) (by decide)
          have qe6963 : zi6959.toInt = zi2891.toInt + 1 := by have ha : (1 : Int32).toInt = 1 := (by decide); rw [ha] at qe6962; exact qe6962
          refine va_sld hx hb hX hbl hbA hS (vp_bv (by omega) (by omega)) dL_law_852 (lv_topi (fun zi6964 ez6965 => ?_))
          refine kq_i hw hS hA (va_runV (As := [.int zi6964]) (rest := []) ⟨hx, hb, hml, hown, hT⟩ (cX11_settled_0 l G cy ev K ln Ls hW _ hp2892 ok2893 qa901 zi6964 kd2897) (cwV 1 hT (good_V tb_1294 tb_1291 tb_1292 tb_1293 tb_105) rfl rfl rfl (by decide +kernel) ⟨Nat.le_of_ble_eq_true rfl, Nat.le_of_ble_eq_true rfl⟩) (pool_preV (ci := 11) hK hE hS hA hw hW kd2897 (by decide) rfl) rfl rfl hl.1 rfl (lv_room (Nat.le_of_ble_eq_true rfl)) dL_law_853 ⟨(show (400 + (gn - g0)) + 0 ≤ 600000 from by omega), (show (100000 + 14 * (gn - g0)) + 0 ≤ 7302250 from by omega)⟩) (fun zi6970 hp6966 H locs hq6969 hw hS => ?_)
          obtain ⟨ok6967, F6968⟩ := hq6969
          have hw : PW G cy K ln Ls A hp6966 H := hw
          refine lv_pop hx hb dL_law_856 rfl ?_
          refine lv_aload_n hx hb dL_law_857 rfl (lv_at hl 2 rfl) ?_
          refine lv_aload_n hx hb dL_law_858 rfl (lv_at hl 0 rfl) ?_
          refine lv_iload_n hx hb dL_law_859 rfl (lv_at hl 3 rfl) ?_
          refine lv_iconst (v := 1) hx hb dL_law_860 (by decide) ?_
          refine lv_iadd hx hb dL_law_861 (lv_topi (fun zi6971 ea6972 => ?_))
          have bd6973 : (1 : Int) ≤ zi6971.toInt ∧ zi6971.toInt ≤ 3067 := b_iadd ea6972 bd5789 bc_1 (by decide) (by decide) (by decide) (by decide)
          have qe6974 : zi6971.toInt = (zi2891 : Int32).toInt + (1 : Int32).toInt := e_iadd ea6972 bd5789 bc_1 (by decide) (by decide)
          have qe6975 : zi6971.toInt = zi2891.toInt + 1 := by have ha : (1 : Int32).toInt = 1 := (by decide); rw [ha] at qe6974; exact qe6974
          refine va_sld hx hb hX hbl hbA hS (vp_bv (by omega) (by omega)) dL_law_862 (lv_topi (fun zi6976 ez6977 => ?_))
          refine kq_i hw hS hA (va_runV (As := [.int zi6976]) (rest := []) ⟨hx, hb, hml, hown, hT⟩ (cX12_settled_0 l G cy ev K ln Ls hW _ hp6966 ok6967 qa900 zi6976 kd2896) (cwV 1 hT (good_V tb_1921 tb_1918 tb_1919 tb_1920 tb_122) rfl rfl rfl (by decide +kernel) ⟨Nat.le_of_ble_eq_true rfl, Nat.le_of_ble_eq_true rfl⟩) (pool_preV (ci := 12) hK hE hS hA hw hW kd2896 (by decide) rfl) rfl rfl hl.1 rfl (lv_room (Nat.le_of_ble_eq_true rfl)) dL_law_863 ⟨(show (400 + (gn - g0)) + 0 ≤ 600000 from by omega), (show (100000 + 14 * (gn - g0)) + 0 ≤ 7302250 from by omega)⟩) (fun zi6982 hp6978 H locs hq6981 hw hS => ?_)
          obtain ⟨ok6979, F6980, bd6983⟩ := hq6981
          have hw : PW G cy K ln Ls A hp6978 H := hw
          refine lv_pop hx hb dL_law_866 rfl ?_
          refine lv_goto (tgt := 1044) hx hb dL_law_867 (by decide) ?_
          obtain ⟨zi6984, ea6985⟩ : ∃ z : Int32, z = zi2891 + 6 := ⟨_, rfl⟩
          have bd6986 : (6 : Int) ≤ zi6984.toInt ∧ zi6984.toInt ≤ 3072 := b_iadd ea6985 bd5789 bc_6 (by decide) (by decide) (by decide) (by decide)
          have qe6987 : zi6984.toInt = (zi2891 : Int32).toInt + (6 : Int32).toInt := e_iadd ea6985 bd5789 bc_6 (by decide) (by decide)
          have qe6988 : zi6984.toInt = zi2891.toInt + 6 := by have ha : (6 : Int32).toInt = 6 := (by decide); rw [ha] at qe6987; exact qe6987
          refine lv_iinc (v := zi6984) (lv' := [(3, .int zi6984), (0, .ref b), (1, .ref qa901), (2, .ref qa900)]) hx hb dL_law_1044 hl (k := 3) rfl ea6985.symm (by decide) rfl (fun ls hl => ?_)
          refine lv_goto (tgt := 18) hx hb dL_law_1047 (by decide) ?_
          have pd6989 : NSx K ln hp6978 gn := NSx_fr ok2893  (show Fr [7003, 7004, 7005, 37000, 38000, 39000, 98000] K hp2892 hp6978 from (Fr.tr (Fr.tr (Fr.rf) F6968 (by decide)) F6980 (by decide))) (by decide) pd2894
          have pd6990 : LW hp6978 qa900 := LW_fr ok2893 kd2896 (show Fr [7003, 7004, 7005, 37000, 38000, 39000, 98000] K hp2892 hp6978 from (Fr.tr (Fr.tr (Fr.rf) F6968 (by decide)) F6980 (by decide))) (by decide) pd2895
          exact ih5774 K ln Ls gn hp6978 zi6984 _ _ ls (by have := hm5776; have := qe6988; omega) hW gex (FrX.tr gfx gex (FrX.of (show Fr [7003, 7004, 7005, 37000, 38000, 39000, 98000] K hp2892 hp6978 from (Fr.tr (Fr.tr (Fr.rf) F6968 (by decide)) F6980 (by decide)))) (by decide +kernel)) ok6979 pd6989 (by omega) pd6990 kd2896 kd2897 (b_wid2 bd6986 (by decide) (by decide)) (lv_sub hl [1, 2, 3, 0] rfl) hw hS
        by_cases cn5821 : zi5794 = 24
        · skip
          refine lv_tableIn (tgt := 870) hx hb dL_law_33 (by rw [cn5821]; decide) (by rw [cn5821]; decide) (by rw [cn5821]; rfl) (by decide) ?_
          have bd6991 : (24 : Int) ≤ zi5794.toInt ∧ zi5794.toInt ≤ 24 := r_eq_x cn5821 bd5796 bc_24 (by decide) (by decide)
          refine lv_aload_n hx hb dL_law_870 rfl (lv_at hl 1 rfl) ?_
          refine lv_aload_n hx hb dL_law_871 rfl (lv_at hl 0 rfl) ?_
          refine lv_iload_n hx hb dL_law_872 rfl (lv_at hl 3 rfl) ?_
          refine lv_iconst (v := 1) hx hb dL_law_873 (by decide) ?_
          refine lv_iadd hx hb dL_law_874 (lv_topi (fun zi6992 ea6993 => ?_))
          have bd6994 : (1 : Int) ≤ zi6992.toInt ∧ zi6992.toInt ≤ 3067 := b_iadd ea6993 bd5789 bc_1 (by decide) (by decide) (by decide) (by decide)
          have qe6995 : zi6992.toInt = (zi2891 : Int32).toInt + (1 : Int32).toInt := e_iadd ea6993 bd5789 bc_1 (by decide) (by decide)
          have qe6996 : zi6992.toInt = zi2891.toInt + 1 := by have ha : (1 : Int32).toInt = 1 := (by decide); rw [ha] at qe6995; exact qe6995
          refine va_sld hx hb hX hbl hbA hS (vp_bv (by omega) (by omega)) dL_law_875 (lv_topi (fun zi6997 ez6998 => ?_))
          refine kq_i hw hS hA (va_runV (As := [.int zi6997]) (rest := []) ⟨hx, hb, hml, hown, hT⟩ (cX11_write_0 l G cy ev K ln Ls hW _ hp2892 ok2893 qa901 zi6997 kd2897) (cwV 1 hT (good_V tb_1298 tb_1295 tb_1296 tb_1297 tb_105) rfl rfl rfl (by decide +kernel) ⟨Nat.le_of_ble_eq_true rfl, Nat.le_of_ble_eq_true rfl⟩) (pool_preV (ci := 11) hK hE hS hA hw hW kd2897 (by decide) rfl) rfl rfl hl.1 rfl (lv_room (Nat.le_of_ble_eq_true rfl)) dL_law_876 ⟨(show (400 + (gn - g0)) + 0 ≤ 600000 from by omega), (show (100000 + 14 * (gn - g0)) + 0 ≤ 7302250 from by omega)⟩) (fun zi7003 hp6999 H locs hq7002 hw hS => ?_)
          obtain ⟨ok7000, F7001, bd7004⟩ := hq7002
          have hw : PW G cy K ln Ls A hp6999 H := hw
          refine lv_pop hx hb dL_law_879 rfl ?_
          refine lv_aload_n hx hb dL_law_880 rfl (lv_at hl 2 rfl) ?_
          refine lv_aload_n hx hb dL_law_881 rfl (lv_at hl 0 rfl) ?_
          refine lv_iload_n hx hb dL_law_882 rfl (lv_at hl 3 rfl) ?_
          refine lv_iconst (v := 1) hx hb dL_law_883 (by decide) ?_
          refine lv_iadd hx hb dL_law_884 (lv_topi (fun zi7005 ea7006 => ?_))
          have bd7007 : (1 : Int) ≤ zi7005.toInt ∧ zi7005.toInt ≤ 3067 := b_iadd ea7006 bd5789 bc_1 (by decide) (by decide) (by decide) (by decide)
          have qe7008 : zi7005.toInt = (zi2891 : Int32).toInt + (1 : Int32).toInt := e_iadd ea7006 bd5789 bc_1 (by decide) (by decide)
          have qe7009 : zi7005.toInt = zi2891.toInt + 1 := by have ha : (1 : Int32).toInt = 1 := (by decide); rw [ha] at qe7008; exact qe7008
          refine va_sld hx hb hX hbl hbA hS (vp_bv (by omega) (by omega)) dL_law_885 (lv_topi (fun zi7010 ez7011 => ?_))
          refine kq_i hw hS hA (va_runV (As := [.int zi7010]) (rest := []) ⟨hx, hb, hml, hown, hT⟩ (cX12_write_0 l G cy ev K ln Ls hW _ hp6999 ok7000 qa900 zi7010 kd2896) (cwV 1 hT (good_V tb_1925 tb_1922 tb_1923 tb_1924 tb_122) rfl rfl rfl (by decide +kernel) ⟨Nat.le_of_ble_eq_true rfl, Nat.le_of_ble_eq_true rfl⟩) (pool_preV (ci := 12) hK hE hS hA hw hW kd2896 (by decide) rfl) rfl rfl hl.1 rfl (lv_room (Nat.le_of_ble_eq_true rfl)) dL_law_886 ⟨(show (400 + (gn - g0)) + 0 ≤ 600000 from by omega), (show (100000 + 14 * (gn - g0)) + 0 ≤ 7302250 from by omega)⟩) (fun zi7016 hp7012 H locs hq7015 hw hS => ?_)
          obtain ⟨ok7013, F7014, bd7017⟩ := hq7015
          have hw : PW G cy K ln Ls A hp7012 H := hw
          refine lv_pop hx hb dL_law_889 rfl ?_
          refine lv_goto (tgt := 1044) hx hb dL_law_890 (by decide) ?_
          obtain ⟨zi7018, ea7019⟩ : ∃ z : Int32, z = zi2891 + 6 := ⟨_, rfl⟩
          have bd7020 : (6 : Int) ≤ zi7018.toInt ∧ zi7018.toInt ≤ 3072 := b_iadd ea7019 bd5789 bc_6 (by decide) (by decide) (by decide) (by decide)
          have qe7021 : zi7018.toInt = (zi2891 : Int32).toInt + (6 : Int32).toInt := e_iadd ea7019 bd5789 bc_6 (by decide) (by decide)
          have qe7022 : zi7018.toInt = zi2891.toInt + 6 := by have ha : (6 : Int32).toInt = 6 := (by decide); rw [ha] at qe7021; exact qe7021
          refine lv_iinc (v := zi7018) (lv' := [(3, .int zi7018), (0, .ref b), (1, .ref qa901), (2, .ref qa900)]) hx hb dL_law_1044 hl (k := 3) rfl ea7019.symm (by decide) rfl (fun ls hl => ?_)
          refine lv_goto (tgt := 18) hx hb dL_law_1047 (by decide) ?_
          have pd7023 : NSx K ln hp7012 gn := NSx_fr ok2893  (show Fr [2003, 13061, 21000, 99000] K hp2892 hp7012 from (Fr.tr (Fr.tr (Fr.rf) F7001 (by decide)) F7014 (by decide))) (by decide) pd2894
          have pd7024 : LW hp7012 qa900 := LW_fr ok2893 kd2896 (show Fr [2003, 13061, 21000, 99000] K hp2892 hp7012 from (Fr.tr (Fr.tr (Fr.rf) F7001 (by decide)) F7014 (by decide))) (by decide) pd2895
          exact ih5774 K ln Ls gn hp7012 zi7018 _ _ ls (by have := hm5776; have := qe7022; omega) hW gex (FrX.tr gfx gex (FrX.of (show Fr [2003, 13061, 21000, 99000] K hp2892 hp7012 from (Fr.tr (Fr.tr (Fr.rf) F7001 (by decide)) F7014 (by decide)))) (by decide +kernel)) ok7013 pd7023 (by omega) pd7024 kd2896 kd2897 (b_wid2 bd7020 (by decide) (by decide)) (lv_sub hl [1, 2, 3, 0] rfl) hw hS
        by_cases cn5822 : zi5794 = 25
        · skip
          refine lv_tableIn (tgt := 893) hx hb dL_law_33 (by rw [cn5822]; decide) (by rw [cn5822]; decide) (by rw [cn5822]; rfl) (by decide) ?_
          have bd7025 : (25 : Int) ≤ zi5794.toInt ∧ zi5794.toInt ≤ 25 := r_eq_x cn5822 bd5796 bc_25 (by decide) (by decide)
          refine lv_aload_n hx hb dL_law_893 rfl (lv_at hl 1 rfl) ?_
          refine kq_i hw hS hA (va_runV (As := []) (rest := []) ⟨hx, hb, hml, hown, hT⟩ (cX11_burn_0 l G cy ev K ln Ls hW _ hp2892 ok2893 qa901 kd2897) (cwV 0 hT (good_V tb_1308 tb_1305 tb_1306 tb_1307 tb_105) rfl rfl rfl (by decide +kernel) ⟨Nat.le_of_ble_eq_true rfl, Nat.le_of_ble_eq_true rfl⟩) (pool_preV (ci := 11) hK hE hS hA hw hW kd2897 (by decide) rfl) rfl rfl hl.1 rfl (lv_room (Nat.le_of_ble_eq_true rfl)) dL_law_894 ⟨(show (400 + (gn - g0)) + 0 ≤ 600000 from by omega), (show (100000 + 14 * (gn - g0)) + 0 ≤ 7302250 from by omega)⟩) (fun zi7030 hp7026 H locs hq7029 hw hS => ?_)
          obtain ⟨ok7027, F7028, bd7031⟩ := hq7029
          have hw : PW G cy K ln Ls A hp7026 H := hw
          refine lv_pop hx hb dL_law_897 rfl ?_
          refine lv_aload_n hx hb dL_law_898 rfl (lv_at hl 2 rfl) ?_
          refine kq_i hw hS hA (va_runV (As := []) (rest := []) ⟨hx, hb, hml, hown, hT⟩ (cX12_burn_0 l G cy ev K ln Ls hW _ hp7026 ok7027 qa900 kd2896) (cwV 0 hT (good_V tb_1929 tb_1926 tb_1927 tb_1928 tb_122) rfl rfl rfl (by decide +kernel) ⟨Nat.le_of_ble_eq_true rfl, Nat.le_of_ble_eq_true rfl⟩) (pool_preV (ci := 12) hK hE hS hA hw hW kd2896 (by decide) rfl) rfl rfl hl.1 rfl (lv_room (Nat.le_of_ble_eq_true rfl)) dL_law_899 ⟨(show (400 + (gn - g0)) + 0 ≤ 600000 from by omega), (show (100000 + 14 * (gn - g0)) + 0 ≤ 7302250 from by omega)⟩) (fun zi7036 hp7032 H locs hq7035 hw hS => ?_)
          obtain ⟨ok7033, F7034, bd7037⟩ := hq7035
          have hw : PW G cy K ln Ls A hp7032 H := hw
          refine lv_pop hx hb dL_law_902 rfl ?_
          refine lv_goto (tgt := 1044) hx hb dL_law_903 (by decide) ?_
          obtain ⟨zi7038, ea7039⟩ : ∃ z : Int32, z = zi2891 + 6 := ⟨_, rfl⟩
          have bd7040 : (6 : Int) ≤ zi7038.toInt ∧ zi7038.toInt ≤ 3072 := b_iadd ea7039 bd5789 bc_6 (by decide) (by decide) (by decide) (by decide)
          have qe7041 : zi7038.toInt = (zi2891 : Int32).toInt + (6 : Int32).toInt := e_iadd ea7039 bd5789 bc_6 (by decide) (by decide)
          have qe7042 : zi7038.toInt = zi2891.toInt + 6 := by have ha : (6 : Int32).toInt = 6 := (by decide); rw [ha] at qe7041; exact qe7041
          refine lv_iinc (v := zi7038) (lv' := [(3, .int zi7038), (0, .ref b), (1, .ref qa901), (2, .ref qa900)]) hx hb dL_law_1044 hl (k := 3) rfl ea7039.symm (by decide) rfl (fun ls hl => ?_)
          refine lv_goto (tgt := 18) hx hb dL_law_1047 (by decide) ?_
          have pd7043 : NSx K ln hp7032 gn := NSx_fr ok2893  (show Fr [2003, 13061, 22000] K hp2892 hp7032 from (Fr.tr (Fr.tr (Fr.rf) F7028 (by decide)) F7034 (by decide))) (by decide) pd2894
          have pd7044 : LW hp7032 qa900 := LW_fr ok2893 kd2896 (show Fr [2003, 13061, 22000] K hp2892 hp7032 from (Fr.tr (Fr.tr (Fr.rf) F7028 (by decide)) F7034 (by decide))) (by decide) pd2895
          exact ih5774 K ln Ls gn hp7032 zi7038 _ _ ls (by have := hm5776; have := qe7042; omega) hW gex (FrX.tr gfx gex (FrX.of (show Fr [2003, 13061, 22000] K hp2892 hp7032 from (Fr.tr (Fr.tr (Fr.rf) F7028 (by decide)) F7034 (by decide)))) (by decide +kernel)) ok7033 pd7043 (by omega) pd7044 kd2896 kd2897 (b_wid2 bd7040 (by decide) (by decide)) (lv_sub hl [1, 2, 3, 0] rfl) hw hS
        by_cases cn5823 : zi5794 = 26
        · skip
          refine lv_tableIn (tgt := 906) hx hb dL_law_33 (by rw [cn5823]; decide) (by rw [cn5823]; decide) (by rw [cn5823]; rfl) (by decide) ?_
          have bd7045 : (26 : Int) ≤ zi5794.toInt ∧ zi5794.toInt ≤ 26 := r_eq_x cn5823 bd5796 bc_26 (by decide) (by decide)
          refine lv_aload_n hx hb dL_law_906 rfl (lv_at hl 1 rfl) ?_
          refine lv_aload_n hx hb dL_law_907 rfl (lv_at hl 0 rfl) ?_
          refine lv_iload_n hx hb dL_law_908 rfl (lv_at hl 3 rfl) ?_
          refine lv_iconst (v := 1) hx hb dL_law_909 (by decide) ?_
          refine lv_iadd hx hb dL_law_910 (lv_topi (fun zi7046 ea7047 => ?_))
          have bd7048 : (1 : Int) ≤ zi7046.toInt ∧ zi7046.toInt ≤ 3067 := b_iadd ea7047 bd5789 bc_1 (by decide) (by decide) (by decide) (by decide)
          have qe7049 : zi7046.toInt = (zi2891 : Int32).toInt + (1 : Int32).toInt := e_iadd ea7047 bd5789 bc_1 (by decide) (by decide)
          have qe7050 : zi7046.toInt = zi2891.toInt + 1 := by have ha : (1 : Int32).toInt = 1 := (by decide); rw [ha] at qe7049; exact qe7049
          refine va_sld hx hb hX hbl hbA hS (vp_bv (by omega) (by omega)) dL_law_911 (lv_topi (fun zi7051 ez7052 => ?_))
          have gf7060 : FrX wsA K0 hp0 hp2892 := gfx
          refine kg_l hw hS hA (va_runV (As := [.int zi7051]) (rest := []) ⟨hx, hb, hml, hown, hT⟩ (Met.szx (cX11_fits_0 l G cy ev K ln Ls hW _ hp2892 ok2893 qa901 zi7051 gn kd2897 pd2894)) (cwV 1 hT (good_V tb_1312 tb_1309 tb_1310 tb_1311 tb_105) rfl rfl rfl (by decide +kernel) ⟨Nat.le_of_ble_eq_true rfl, Nat.le_of_ble_eq_true rfl⟩) (pool_preV (ci := 11) hK hE hS hA hw hW kd2897 (by decide) rfl) rfl rfl hl.1 rfl (lv_room (Nat.le_of_ble_eq_true rfl)) dL_law_912 ⟨(show (400 + (gn - g0)) + 327680 ≤ 600000 from by omega), (show (100000 + 14 * (gn - g0)) + 4580352 ≤ 7302250 from by omega)⟩) (fun wl7061 u gn H locs hq7053 hw hS => ?_)
          obtain ⟨K, ln, Ls, hp7054⟩ := u
          obtain ⟨ex7056, hW, ok7055, fx7057, pd7058, hle7059⟩ := hq7053
          have ex7056 : EXx _ _ K ln := ex7056
          have hW : SW K ln Ls := hW
          have ok7055 : Ok K hp7054 := ok7055
          have fx7057 : FrX _ _ _ hp7054 := fx7057
          have pd7058 : NSx K ln hp7054 gn := pd7058
          have hle7059 : _ ≤ gn := hle7059
          have hw : PW G cy K ln Ls A hp7054 H := hw
          have pd7063 : LW hp7054 qa900 := LW_frX ok2893 kd2896 fx7057 pd2895
          have gfx : FrX wsA K0 hp0 hp7054 := FrX.tr gf7060 gex fx7057 (by decide +kernel)
          have gex := EXx.tr gex ex7056
          have kd7064 := EXx.kd ex7056 kd2896 (by decide)
          have kd7065 := EXx.kd ex7056 kd2897 (by decide)
          (try clear kd2896); (try clear kd2897)
          have hgn := NSx.bd pd7058
          refine W.widen (k := (400 + (gn - g0))) (n := (100000 + 14 * (gn - g0))) (by omega) (by omega) ?_
          have hga : g0 ≤ gn := by omega
          refine lv_pop2_2 hx hb dL_law_915 rfl ?_
          refine lv_aload_n hx hb dL_law_916 rfl (lv_at hl 2 rfl) ?_
          refine lv_aload_n hx hb dL_law_917 rfl (lv_at hl 0 rfl) ?_
          refine lv_iload_n hx hb dL_law_918 rfl (lv_at hl 3 rfl) ?_
          refine lv_iconst (v := 1) hx hb dL_law_919 (by decide) ?_
          refine lv_iadd hx hb dL_law_920 (lv_topi (fun zi7066 ea7067 => ?_))
          have bd7068 : (1 : Int) ≤ zi7066.toInt ∧ zi7066.toInt ≤ 3067 := b_iadd ea7067 bd5789 bc_1 (by decide) (by decide) (by decide) (by decide)
          have qe7069 : zi7066.toInt = (zi2891 : Int32).toInt + (1 : Int32).toInt := e_iadd ea7067 bd5789 bc_1 (by decide) (by decide)
          have qe7070 : zi7066.toInt = zi2891.toInt + 1 := by have ha : (1 : Int32).toInt = 1 := (by decide); rw [ha] at qe7069; exact qe7069
          refine va_sld hx hb hX hbl hbA hS (vp_bv (by omega) (by omega)) dL_law_921 (lv_topi (fun zi7071 ez7072 => ?_))
          refine kq_l hw hS hA (va_runV (As := [.int zi7071]) (rest := []) ⟨hx, hb, hml, hown, hT⟩ (cX12_fits_0 l G cy ev K ln Ls hW _ hp7054 ok7055 qa900 zi7071 kd7064 pd7063) (cwV 1 hT (good_V tb_1933 tb_1930 tb_1931 tb_1932 tb_122) rfl rfl rfl (by decide +kernel) ⟨Nat.le_of_ble_eq_true rfl, Nat.le_of_ble_eq_true rfl⟩) (pool_preV (ci := 12) hK hE hS hA hw hW kd7064 (by decide) rfl) rfl rfl hl.1 rfl (lv_room (Nat.le_of_ble_eq_true rfl)) dL_law_922 ⟨(show (400 + (gn - g0)) + 0 ≤ 600000 from by omega), (show (100000 + 14 * (gn - g0)) + 0 ≤ 7302250 from by omega)⟩) (fun wl7077 hp7073 H locs hq7076 hw hS => ?_)
          obtain ⟨ok7074, F7075⟩ := hq7076
          have hw : PW G cy K ln Ls A hp7073 H := hw
          refine lv_pop2_2 hx hb dL_law_925 rfl ?_
          refine lv_goto (tgt := 1044) hx hb dL_law_926 (by decide) ?_
          obtain ⟨zi7078, ea7079⟩ : ∃ z : Int32, z = zi2891 + 6 := ⟨_, rfl⟩
          have bd7080 : (6 : Int) ≤ zi7078.toInt ∧ zi7078.toInt ≤ 3072 := b_iadd ea7079 bd5789 bc_6 (by decide) (by decide) (by decide) (by decide)
          have qe7081 : zi7078.toInt = (zi2891 : Int32).toInt + (6 : Int32).toInt := e_iadd ea7079 bd5789 bc_6 (by decide) (by decide)
          have qe7082 : zi7078.toInt = zi2891.toInt + 6 := by have ha : (6 : Int32).toInt = 6 := (by decide); rw [ha] at qe7081; exact qe7081
          refine lv_iinc (v := zi7078) (lv' := [(3, .int zi7078), (0, .ref b), (1, .ref qa901), (2, .ref qa900)]) hx hb dL_law_1044 hl (k := 3) rfl ea7079.symm (by decide) rfl (fun ls hl => ?_)
          refine lv_goto (tgt := 18) hx hb dL_law_1047 (by decide) ?_
          have pd7083 : NSx K ln hp7073 gn := NSx_fr ok7055  (show Fr [13048, 13051, 13063, 13064, 13065, 90000, 91000, 93000, 95000, 100000] K hp7054 hp7073 from (Fr.tr (Fr.rf) F7075 (by decide))) (by decide) pd7058
          have pd7084 : LW hp7073 qa900 := LW_fr ok7055 kd7064 (show Fr [13048, 13051, 13063, 13064, 13065, 90000, 91000, 93000, 95000, 100000] K hp7054 hp7073 from (Fr.tr (Fr.rf) F7075 (by decide))) (by decide) pd7063
          exact ih5774 K ln Ls gn hp7073 zi7078 _ _ ls (by have := hm5776; have := qe7082; omega) hW gex (FrX.tr gfx gex (FrX.of (show Fr [13048, 13051, 13063, 13064, 13065, 90000, 91000, 93000, 95000, 100000] K hp7054 hp7073 from (Fr.tr (Fr.rf) F7075 (by decide)))) (by decide +kernel)) ok7074 pd7083 (by omega) pd7084 kd7064 kd7065 (b_wid2 bd7080 (by decide) (by decide)) (lv_sub hl [1, 2, 3, 0] rfl) hw hS
        by_cases cn5824 : zi5794 = 27
        · skip
          refine lv_tableIn (tgt := 929) hx hb dL_law_33 (by rw [cn5824]; decide) (by rw [cn5824]; decide) (by rw [cn5824]; rfl) (by decide) ?_
          have bd7085 : (27 : Int) ≤ zi5794.toInt ∧ zi5794.toInt ≤ 27 := r_eq_x cn5824 bd5796 bc_27 (by decide) (by decide)
          refine lv_aload_n hx hb dL_law_929 rfl (lv_at hl 1 rfl) ?_
          refine lv_aload_n hx hb dL_law_930 rfl (lv_at hl 0 rfl) ?_
          refine lv_iload_n hx hb dL_law_931 rfl (lv_at hl 3 rfl) ?_
          refine lv_iconst (v := 1) hx hb dL_law_932 (by decide) ?_
          refine lv_iadd hx hb dL_law_933 (lv_topi (fun zi7086 ea7087 => ?_))
          have bd7088 : (1 : Int) ≤ zi7086.toInt ∧ zi7086.toInt ≤ 3067 := b_iadd ea7087 bd5789 bc_1 (by decide) (by decide) (by decide) (by decide)
          have qe7089 : zi7086.toInt = (zi2891 : Int32).toInt + (1 : Int32).toInt := e_iadd ea7087 bd5789 bc_1 (by decide) (by decide)
          have qe7090 : zi7086.toInt = zi2891.toInt + 1 := by have ha : (1 : Int32).toInt = 1 := (by decide); rw [ha] at qe7089; exact qe7089
          refine va_sld hx hb hX hbl hbA hS (vp_bv (by omega) (by omega)) dL_law_934 (lv_topi (fun zi7091 ez7092 => ?_))
          have gf7100 : FrX wsA K0 hp0 hp2892 := gfx
          refine kg_i hw hS hA (va_runV (As := [.int zi7091]) (rest := []) ⟨hx, hb, hml, hown, hT⟩ (Met.szx (cX11_surely_0 l G cy ev K ln Ls hW _ hp2892 ok2893 qa901 zi7091 gn kd2897 pd2894)) (cwV 1 hT (good_V tb_1335 tb_1332 tb_1333 tb_1334 tb_105) rfl rfl rfl (by decide +kernel) ⟨Nat.le_of_ble_eq_true rfl, Nat.le_of_ble_eq_true rfl⟩) (pool_preV (ci := 11) hK hE hS hA hw hW kd2897 (by decide) rfl) rfl rfl hl.1 rfl (lv_room (Nat.le_of_ble_eq_true rfl)) dL_law_935 ⟨(show (400 + (gn - g0)) + 327680 ≤ 600000 from by omega), (show (100000 + 14 * (gn - g0)) + 4580352 ≤ 7302250 from by omega)⟩) (fun zi7101 u gn H locs hq7093 hw hS => ?_)
          obtain ⟨K, ln, Ls, hp7094⟩ := u
          obtain ⟨ex7096, hW, ok7095, fx7097, pd7098, hle7099⟩ := hq7093
          have ex7096 : EXx _ _ K ln := ex7096
          have hW : SW K ln Ls := hW
          have ok7095 : Ok K hp7094 := ok7095
          have fx7097 : FrX _ _ _ hp7094 := fx7097
          have pd7098 : NSx K ln hp7094 gn := pd7098
          have hle7099 : _ ≤ gn := hle7099
          have hw : PW G cy K ln Ls A hp7094 H := hw
          have pd7103 : LW hp7094 qa900 := LW_frX ok2893 kd2896 fx7097 pd2895
          have gfx : FrX wsA K0 hp0 hp7094 := FrX.tr gf7100 gex fx7097 (by decide +kernel)
          have gex := EXx.tr gex ex7096
          have kd7104 := EXx.kd ex7096 kd2896 (by decide)
          have kd7105 := EXx.kd ex7096 kd2897 (by decide)
          (try clear kd2896); (try clear kd2897)
          have hgn := NSx.bd pd7098
          refine W.widen (k := (400 + (gn - g0))) (n := (100000 + 14 * (gn - g0))) (by omega) (by omega) ?_
          have hga : g0 ≤ gn := by omega
          refine lv_pop hx hb dL_law_938 rfl ?_
          refine lv_aload_n hx hb dL_law_939 rfl (lv_at hl 2 rfl) ?_
          refine lv_aload_n hx hb dL_law_940 rfl (lv_at hl 0 rfl) ?_
          refine lv_iload_n hx hb dL_law_941 rfl (lv_at hl 3 rfl) ?_
          refine lv_iconst (v := 1) hx hb dL_law_942 (by decide) ?_
          refine lv_iadd hx hb dL_law_943 (lv_topi (fun zi7106 ea7107 => ?_))
          have bd7108 : (1 : Int) ≤ zi7106.toInt ∧ zi7106.toInt ≤ 3067 := b_iadd ea7107 bd5789 bc_1 (by decide) (by decide) (by decide) (by decide)
          have qe7109 : zi7106.toInt = (zi2891 : Int32).toInt + (1 : Int32).toInt := e_iadd ea7107 bd5789 bc_1 (by decide) (by decide)
          have qe7110 : zi7106.toInt = zi2891.toInt + 1 := by have ha : (1 : Int32).toInt = 1 := (by decide); rw [ha] at qe7109; exact qe7109
          refine va_sld hx hb hX hbl hbA hS (vp_bv (by omega) (by omega)) dL_law_944 (lv_topi (fun zi7111 ez7112 => ?_))
          refine kq_i hw hS hA (va_runV (As := [.int zi7111]) (rest := []) ⟨hx, hb, hml, hown, hT⟩ (cX12_surely_0 l G cy ev K ln Ls hW _ hp7094 ok7095 qa900 zi7111 kd7104 pd7103) (cwV 1 hT (good_V tb_1945 tb_1942 tb_1943 tb_1944 tb_122) rfl rfl rfl (by decide +kernel) ⟨Nat.le_of_ble_eq_true rfl, Nat.le_of_ble_eq_true rfl⟩) (pool_preV (ci := 12) hK hE hS hA hw hW kd7104 (by decide) rfl) rfl rfl hl.1 rfl (lv_room (Nat.le_of_ble_eq_true rfl)) dL_law_945 ⟨(show (400 + (gn - g0)) + 0 ≤ 600000 from by omega), (show (100000 + 14 * (gn - g0)) + 0 ≤ 7302250 from by omega)⟩) (fun zi7117 hp7113 H locs hq7116 hw hS => ?_)
          obtain ⟨ok7114, F7115⟩ := hq7116
          have hw : PW G cy K ln Ls A hp7113 H := hw
          refine lv_pop hx hb dL_law_948 rfl ?_
          refine lv_goto (tgt := 1044) hx hb dL_law_949 (by decide) ?_
          obtain ⟨zi7118, ea7119⟩ : ∃ z : Int32, z = zi2891 + 6 := ⟨_, rfl⟩
          have bd7120 : (6 : Int) ≤ zi7118.toInt ∧ zi7118.toInt ≤ 3072 := b_iadd ea7119 bd5789 bc_6 (by decide) (by decide) (by decide) (by decide)
          have qe7121 : zi7118.toInt = (zi2891 : Int32).toInt + (6 : Int32).toInt := e_iadd ea7119 bd5789 bc_6 (by decide) (by decide)
          have qe7122 : zi7118.toInt = zi2891.toInt + 6 := by have ha : (6 : Int32).toInt = 6 := (by decide); rw [ha] at qe7121; exact qe7121
          refine lv_iinc (v := zi7118) (lv' := [(3, .int zi7118), (0, .ref b), (1, .ref qa901), (2, .ref qa900)]) hx hb dL_law_1044 hl (k := 3) rfl ea7119.symm (by decide) rfl (fun ls hl => ?_)
          refine lv_goto (tgt := 18) hx hb dL_law_1047 (by decide) ?_
          have pd7123 : NSx K ln hp7113 gn := NSx_fr ok7095  (show Fr [13048, 13051, 13063, 13064, 13065, 90000, 91000, 93000, 95000, 100000] K hp7094 hp7113 from (Fr.tr (Fr.rf) F7115 (by decide))) (by decide) pd7098
          have pd7124 : LW hp7113 qa900 := LW_fr ok7095 kd7104 (show Fr [13048, 13051, 13063, 13064, 13065, 90000, 91000, 93000, 95000, 100000] K hp7094 hp7113 from (Fr.tr (Fr.rf) F7115 (by decide))) (by decide) pd7103
          exact ih5774 K ln Ls gn hp7113 zi7118 _ _ ls (by have := hm5776; have := qe7122; omega) hW gex (FrX.tr gfx gex (FrX.of (show Fr [13048, 13051, 13063, 13064, 13065, 90000, 91000, 93000, 95000, 100000] K hp7094 hp7113 from (Fr.tr (Fr.rf) F7115 (by decide)))) (by decide +kernel)) ok7114 pd7123 (by omega) pd7124 kd7104 kd7105 (b_wid2 bd7120 (by decide) (by decide)) (lv_sub hl [1, 2, 3, 0] rfl) hw hS
        by_cases cn5825 : zi5794 = 28
        · skip
          refine lv_tableIn (tgt := 952) hx hb dL_law_33 (by rw [cn5825]; decide) (by rw [cn5825]; decide) (by rw [cn5825]; rfl) (by decide) ?_
          have bd7125 : (28 : Int) ≤ zi5794.toInt ∧ zi5794.toInt ≤ 28 := r_eq_x cn5825 bd5796 bc_28 (by decide) (by decide)
          refine lv_aload_n hx hb dL_law_952 rfl (lv_at hl 1 rfl) ?_
          refine lv_aload_n hx hb dL_law_953 rfl (lv_at hl 0 rfl) ?_
          refine lv_iload_n hx hb dL_law_954 rfl (lv_at hl 3 rfl) ?_
          refine lv_iconst (v := 1) hx hb dL_law_955 (by decide) ?_
          refine lv_iadd hx hb dL_law_956 (lv_topi (fun zi7126 ea7127 => ?_))
          have bd7128 : (1 : Int) ≤ zi7126.toInt ∧ zi7126.toInt ≤ 3067 := b_iadd ea7127 bd5789 bc_1 (by decide) (by decide) (by decide) (by decide)
          have qe7129 : zi7126.toInt = (zi2891 : Int32).toInt + (1 : Int32).toInt := e_iadd ea7127 bd5789 bc_1 (by decide) (by decide)
          have qe7130 : zi7126.toInt = zi2891.toInt + 1 := by have ha : (1 : Int32).toInt = 1 := (by decide); rw [ha] at qe7129; exact qe7129
          refine va_sld hx hb hX hbl hbA hS (vp_bv (by omega) (by omega)) dL_law_957 (lv_topi (fun zi7131 ez7132 => ?_))
          have gf7140 : FrX wsA K0 hp0 hp2892 := gfx
          refine kg_i hw hS hA (va_runV (As := [.int zi7131]) (rest := []) ⟨hx, hb, hml, hown, hT⟩ (Met.szx (cX11_liars_0 l G cy ev K ln Ls hW _ hp2892 ok2893 qa901 zi7131 gn kd2897 pd2894)) (cwV 1 hT (good_V tb_1339 tb_1336 tb_1337 tb_1338 tb_105) rfl rfl rfl (by decide +kernel) ⟨Nat.le_of_ble_eq_true rfl, Nat.le_of_ble_eq_true rfl⟩) (pool_preV (ci := 11) hK hE hS hA hw hW kd2897 (by decide) rfl) rfl rfl hl.1 rfl (lv_room (Nat.le_of_ble_eq_true rfl)) dL_law_958 ⟨(show (400 + (gn - g0)) + 327680 ≤ 600000 from by omega), (show (100000 + 14 * (gn - g0)) + 4580352 ≤ 7302250 from by omega)⟩) (fun zi7141 u gn H locs hq7133 hw hS => ?_)
          obtain ⟨K, ln, Ls, hp7134⟩ := u
          obtain ⟨ex7136, hW, ok7135, fx7137, pd7138, hle7139⟩ := hq7133
          have ex7136 : EXx _ _ K ln := ex7136
          have hW : SW K ln Ls := hW
          have ok7135 : Ok K hp7134 := ok7135
          have fx7137 : FrX _ _ _ hp7134 := fx7137
          have pd7138 : NSx K ln hp7134 gn := pd7138
          have hle7139 : _ ≤ gn := hle7139
          have hw : PW G cy K ln Ls A hp7134 H := hw
          have pd7143 : LW hp7134 qa900 := LW_frX ok2893 kd2896 fx7137 pd2895
          have gfx : FrX wsA K0 hp0 hp7134 := FrX.tr gf7140 gex fx7137 (by decide +kernel)
          have gex := EXx.tr gex ex7136
          have kd7144 := EXx.kd ex7136 kd2896 (by decide)
          have kd7145 := EXx.kd ex7136 kd2897 (by decide)
          (try clear kd2896); (try clear kd2897)
          have hgn := NSx.bd pd7138
          refine W.widen (k := (400 + (gn - g0))) (n := (100000 + 14 * (gn - g0))) (by omega) (by omega) ?_
          have hga : g0 ≤ gn := by omega
          refine lv_pop hx hb dL_law_961 rfl ?_
          refine lv_aload_n hx hb dL_law_962 rfl (lv_at hl 2 rfl) ?_
          refine lv_aload_n hx hb dL_law_963 rfl (lv_at hl 0 rfl) ?_
          refine lv_iload_n hx hb dL_law_964 rfl (lv_at hl 3 rfl) ?_
          refine lv_iconst (v := 1) hx hb dL_law_965 (by decide) ?_
          refine lv_iadd hx hb dL_law_966 (lv_topi (fun zi7146 ea7147 => ?_))
          have bd7148 : (1 : Int) ≤ zi7146.toInt ∧ zi7146.toInt ≤ 3067 := b_iadd ea7147 bd5789 bc_1 (by decide) (by decide) (by decide) (by decide)
          have qe7149 : zi7146.toInt = (zi2891 : Int32).toInt + (1 : Int32).toInt := e_iadd ea7147 bd5789 bc_1 (by decide) (by decide)
          have qe7150 : zi7146.toInt = zi2891.toInt + 1 := by have ha : (1 : Int32).toInt = 1 := (by decide); rw [ha] at qe7149; exact qe7149
          refine va_sld hx hb hX hbl hbA hS (vp_bv (by omega) (by omega)) dL_law_967 (lv_topi (fun zi7151 ez7152 => ?_))
          refine kq_i hw hS hA (va_runV (As := [.int zi7151]) (rest := []) ⟨hx, hb, hml, hown, hT⟩ (cX12_liars_0 l G cy ev K ln Ls hW _ hp7134 ok7135 qa900 zi7151 kd7144 pd7143) (cwV 1 hT (good_V tb_1949 tb_1946 tb_1947 tb_1948 tb_122) rfl rfl rfl (by decide +kernel) ⟨Nat.le_of_ble_eq_true rfl, Nat.le_of_ble_eq_true rfl⟩) (pool_preV (ci := 12) hK hE hS hA hw hW kd7144 (by decide) rfl) rfl rfl hl.1 rfl (lv_room (Nat.le_of_ble_eq_true rfl)) dL_law_968 ⟨(show (400 + (gn - g0)) + 0 ≤ 600000 from by omega), (show (100000 + 14 * (gn - g0)) + 0 ≤ 7302250 from by omega)⟩) (fun zi7157 hp7153 H locs hq7156 hw hS => ?_)
          obtain ⟨ok7154, F7155⟩ := hq7156
          have hw : PW G cy K ln Ls A hp7153 H := hw
          refine lv_pop hx hb dL_law_971 rfl ?_
          refine lv_goto (tgt := 1044) hx hb dL_law_972 (by decide) ?_
          obtain ⟨zi7158, ea7159⟩ : ∃ z : Int32, z = zi2891 + 6 := ⟨_, rfl⟩
          have bd7160 : (6 : Int) ≤ zi7158.toInt ∧ zi7158.toInt ≤ 3072 := b_iadd ea7159 bd5789 bc_6 (by decide) (by decide) (by decide) (by decide)
          have qe7161 : zi7158.toInt = (zi2891 : Int32).toInt + (6 : Int32).toInt := e_iadd ea7159 bd5789 bc_6 (by decide) (by decide)
          have qe7162 : zi7158.toInt = zi2891.toInt + 6 := by have ha : (6 : Int32).toInt = 6 := (by decide); rw [ha] at qe7161; exact qe7161
          refine lv_iinc (v := zi7158) (lv' := [(3, .int zi7158), (0, .ref b), (1, .ref qa901), (2, .ref qa900)]) hx hb dL_law_1044 hl (k := 3) rfl ea7159.symm (by decide) rfl (fun ls hl => ?_)
          refine lv_goto (tgt := 18) hx hb dL_law_1047 (by decide) ?_
          have pd7163 : NSx K ln hp7153 gn := NSx_fr ok7135  (show Fr [13048, 13051, 13063, 13064, 13065, 90000, 91000, 93000, 95000, 100000] K hp7134 hp7153 from (Fr.tr (Fr.rf) F7155 (by decide))) (by decide) pd7138
          have pd7164 : LW hp7153 qa900 := LW_fr ok7135 kd7144 (show Fr [13048, 13051, 13063, 13064, 13065, 90000, 91000, 93000, 95000, 100000] K hp7134 hp7153 from (Fr.tr (Fr.rf) F7155 (by decide))) (by decide) pd7143
          exact ih5774 K ln Ls gn hp7153 zi7158 _ _ ls (by have := hm5776; have := qe7162; omega) hW gex (FrX.tr gfx gex (FrX.of (show Fr [13048, 13051, 13063, 13064, 13065, 90000, 91000, 93000, 95000, 100000] K hp7134 hp7153 from (Fr.tr (Fr.rf) F7155 (by decide)))) (by decide +kernel)) ok7154 pd7163 (by omega) pd7164 kd7144 kd7145 (b_wid2 bd7160 (by decide) (by decide)) (lv_sub hl [1, 2, 3, 0] rfl) hw hS
        by_cases cn5826 : zi5794 = 29
        · skip
          refine lv_tableIn (tgt := 975) hx hb dL_law_33 (by rw [cn5826]; decide) (by rw [cn5826]; decide) (by rw [cn5826]; rfl) (by decide) ?_
          have bd7165 : (29 : Int) ≤ zi5794.toInt ∧ zi5794.toInt ≤ 29 := r_eq_x cn5826 bd5796 bc_29 (by decide) (by decide)
          refine lv_aload_n hx hb dL_law_975 rfl (lv_at hl 1 rfl) ?_
          refine lv_aload_n hx hb dL_law_976 rfl (lv_at hl 0 rfl) ?_
          refine lv_iload_n hx hb dL_law_977 rfl (lv_at hl 3 rfl) ?_
          refine lv_iconst (v := 1) hx hb dL_law_978 (by decide) ?_
          refine lv_iadd hx hb dL_law_979 (lv_topi (fun zi7166 ea7167 => ?_))
          have bd7168 : (1 : Int) ≤ zi7166.toInt ∧ zi7166.toInt ≤ 3067 := b_iadd ea7167 bd5789 bc_1 (by decide) (by decide) (by decide) (by decide)
          have qe7169 : zi7166.toInt = (zi2891 : Int32).toInt + (1 : Int32).toInt := e_iadd ea7167 bd5789 bc_1 (by decide) (by decide)
          have qe7170 : zi7166.toInt = zi2891.toInt + 1 := by have ha : (1 : Int32).toInt = 1 := (by decide); rw [ha] at qe7169; exact qe7169
          refine va_sld hx hb hX hbl hbA hS (vp_bv (by omega) (by omega)) dL_law_980 (lv_topi (fun zi7171 ez7172 => ?_))
          refine kq_i hw hS hA (va_runV (As := [.int zi7171]) (rest := []) ⟨hx, hb, hml, hown, hT⟩ (cX11_hold_vH_0 l G cy ev K ln Ls hW _ hp2892 ok2893 qa901 zi7171 kd2897) (cwV 1 hT (good_V tb_1343 tb_1340 tb_1341 tb_1342 tb_105) rfl rfl rfl (by decide +kernel) ⟨Nat.le_of_ble_eq_true rfl, Nat.le_of_ble_eq_true rfl⟩) (pool_preV (ci := 11) hK hE hS hA hw hW kd2897 (by decide) rfl) rfl rfl hl.1 rfl (lv_room (Nat.le_of_ble_eq_true rfl)) dL_law_981 ⟨(show (400 + (gn - g0)) + 0 ≤ 600000 from by omega), (show (100000 + 14 * (gn - g0)) + 0 ≤ 7302250 from by omega)⟩) (fun zi7177 hp7173 H locs hq7176 hw hS => ?_)
          obtain ⟨ok7174, F7175, bd7178, xq7179, hc7180⟩ := hq7176
          have hw : PW G cy K ln Ls A hp7173 H := hw
          refine lv_aload_n hx hb dL_law_984 rfl (lv_at hl 2 rfl) ?_
          refine lv_aload_n hx hb dL_law_985 rfl (lv_at hl 0 rfl) ?_
          refine lv_iload_n hx hb dL_law_986 rfl (lv_at hl 3 rfl) ?_
          refine lv_iconst (v := 1) hx hb dL_law_987 (by decide) ?_
          refine lv_iadd hx hb dL_law_988 (lv_topi (fun zi7181 ea7182 => ?_))
          have bd7183 : (1 : Int) ≤ zi7181.toInt ∧ zi7181.toInt ≤ 3067 := b_iadd ea7182 bd5789 bc_1 (by decide) (by decide) (by decide) (by decide)
          have qe7184 : zi7181.toInt = (zi2891 : Int32).toInt + (1 : Int32).toInt := e_iadd ea7182 bd5789 bc_1 (by decide) (by decide)
          have qe7185 : zi7181.toInt = zi2891.toInt + 1 := by have ha : (1 : Int32).toInt = 1 := (by decide); rw [ha] at qe7184; exact qe7184
          refine va_sld hx hb hX hbl hbA hS (vp_bv (by omega) (by omega)) dL_law_989 (lv_topi (fun zi7186 ez7187 => ?_))
          refine kq_i hw hS hA (va_runV (As := [.int zi7186]) (rest := [.int zi7177]) ⟨hx, hb, hml, hown, hT⟩ (cX12_hold_vH_0 l G cy ev K ln Ls hW _ hp7173 ok7174 qa900 zi7186 kd2896) (cwV 1 hT (good_V tb_1953 tb_1950 tb_1951 tb_1952 tb_122) rfl rfl rfl (by decide +kernel) ⟨Nat.le_of_ble_eq_true rfl, Nat.le_of_ble_eq_true rfl⟩) (pool_preV (ci := 12) hK hE hS hA hw hW kd2896 (by decide) rfl) rfl rfl hl.1 rfl (lv_room (Nat.le_of_ble_eq_true rfl)) dL_law_990 ⟨(show (400 + (gn - g0)) + 0 ≤ 600000 from by omega), (show (100000 + 14 * (gn - g0)) + 0 ≤ 7302250 from by omega)⟩) (fun zi7192 hp7188 H locs hq7191 hw hS => ?_)
          obtain ⟨ok7189, F7190, bd7193, xq7194, hc7195⟩ := hq7191
          have hw : PW G cy K ln Ls A hp7188 H := hw
          refine lv_icmp_eq (tgt := 1044) hx hb dL_law_993 (by decide) (fun cn7196 => ?_) (fun cn7196 => ?_)
          · skip
            have tf7197 : zi7177.toInt = zi7192.toInt := congrArg Int32.toInt cn7196
            obtain ⟨zi7198, ea7199⟩ : ∃ z : Int32, z = zi2891 + 6 := ⟨_, rfl⟩
            have bd7200 : (6 : Int) ≤ zi7198.toInt ∧ zi7198.toInt ≤ 3072 := b_iadd ea7199 bd5789 bc_6 (by decide) (by decide) (by decide) (by decide)
            have qe7201 : zi7198.toInt = (zi2891 : Int32).toInt + (6 : Int32).toInt := e_iadd ea7199 bd5789 bc_6 (by decide) (by decide)
            have qe7202 : zi7198.toInt = zi2891.toInt + 6 := by have ha : (6 : Int32).toInt = 6 := (by decide); rw [ha] at qe7201; exact qe7201
            refine lv_iinc (v := zi7198) (lv' := [(3, .int zi7198), (0, .ref b), (1, .ref qa901), (2, .ref qa900)]) hx hb dL_law_1044 hl (k := 3) rfl ea7199.symm (by decide) rfl (fun ls hl => ?_)
            refine lv_goto (tgt := 18) hx hb dL_law_1047 (by decide) ?_
            have pd7203 : NSx K ln hp7188 gn := NSx_fr ok2893  (show Fr [8000, 8001, 8002, 8003, 8004, 8005, 9001, 40000, 41000, 42000, 43000, 59000, 101000, 102000] K hp2892 hp7188 from (Fr.tr (Fr.tr (Fr.rf) F7175 (by decide)) F7190 (by decide))) (by decide) pd2894
            have pd7204 : LW hp7188 qa900 := LW_fr ok2893 kd2896 (show Fr [8000, 8001, 8002, 8003, 8004, 8005, 9001, 40000, 41000, 42000, 43000, 59000, 101000, 102000] K hp2892 hp7188 from (Fr.tr (Fr.tr (Fr.rf) F7175 (by decide)) F7190 (by decide))) (by decide) pd2895
            exact ih5774 K ln Ls gn hp7188 zi7198 _ _ ls (by have := hm5776; have := qe7202; omega) hW gex (FrX.tr gfx gex (FrX.of (show Fr [8000, 8001, 8002, 8003, 8004, 8005, 9001, 40000, 41000, 42000, 43000, 59000, 101000, 102000] K hp2892 hp7188 from (Fr.tr (Fr.tr (Fr.rf) F7175 (by decide)) F7190 (by decide)))) (by decide +kernel)) ok7189 pd7203 (by omega) pd7204 kd2896 kd2897 (b_wid2 bd7200 (by decide) (by decide)) (lv_sub hl [1, 2, 3, 0] rfl) hw hS
          · skip
            have tf7205 : (zi7177 : Int32).toInt ≠ (zi7192 : Int32).toInt := fun e => cn7196 (Int32.toInt_inj.mp e)
            have he7206 : zi7181 = zi7166 := Int32.toInt_inj.mp (by omega)
            have he7207 : zi7186 = zi7171 := by rw [ez7187, ez7172, he7206]
            have := congrArg Int32.toInt he7207
            exact False.elim (by omega)
        by_cases cn5827 : zi5794 = 30
        · skip
          refine lv_tableIn (tgt := 998) hx hb dL_law_33 (by rw [cn5827]; decide) (by rw [cn5827]; decide) (by rw [cn5827]; rfl) (by decide) ?_
          have bd7208 : (30 : Int) ≤ zi5794.toInt ∧ zi5794.toInt ≤ 30 := r_eq_x cn5827 bd5796 bc_30 (by decide) (by decide)
          refine lv_aload_n hx hb dL_law_998 rfl (lv_at hl 1 rfl) ?_
          refine lv_aload_n hx hb dL_law_999 rfl (lv_at hl 0 rfl) ?_
          refine lv_iload_n hx hb dL_law_1000 rfl (lv_at hl 3 rfl) ?_
          refine lv_iconst (v := 1) hx hb dL_law_1001 (by decide) ?_
          refine lv_iadd hx hb dL_law_1002 (lv_topi (fun zi7209 ea7210 => ?_))
          have bd7211 : (1 : Int) ≤ zi7209.toInt ∧ zi7209.toInt ≤ 3067 := b_iadd ea7210 bd5789 bc_1 (by decide) (by decide) (by decide) (by decide)
          have qe7212 : zi7209.toInt = (zi2891 : Int32).toInt + (1 : Int32).toInt := e_iadd ea7210 bd5789 bc_1 (by decide) (by decide)
          have qe7213 : zi7209.toInt = zi2891.toInt + 1 := by have ha : (1 : Int32).toInt = 1 := (by decide); rw [ha] at qe7212; exact qe7212
          refine va_sld hx hb hX hbl hbA hS (vp_bv (by omega) (by omega)) dL_law_1003 (lv_topi (fun zi7214 ez7215 => ?_))
          refine kq_i hw hS hA (va_runV (As := [.int zi7214]) (rest := []) ⟨hx, hb, hml, hown, hT⟩ (cX11_restore_0 l G cy ev K ln Ls hW _ hp2892 ok2893 qa901 zi7214 kd2897) (cwV 1 hT (good_V tb_1352 tb_1349 tb_1350 tb_1351 tb_105) rfl rfl rfl (by decide +kernel) ⟨Nat.le_of_ble_eq_true rfl, Nat.le_of_ble_eq_true rfl⟩) (pool_preV (ci := 11) hK hE hS hA hw hW kd2897 (by decide) rfl) rfl rfl hl.1 rfl (lv_room (Nat.le_of_ble_eq_true rfl)) dL_law_1004 ⟨(show (400 + (gn - g0)) + 0 ≤ 600000 from by omega), (show (100000 + 14 * (gn - g0)) + 0 ≤ 7302250 from by omega)⟩) (fun zi7220 hp7216 H locs hq7219 hw hS => ?_)
          obtain ⟨ok7217, F7218, bd7221, hc7222⟩ := hq7219
          have hw : PW G cy K ln Ls A hp7216 H := hw
          refine lv_pop hx hb dL_law_1007 rfl ?_
          refine lv_aload_n hx hb dL_law_1008 rfl (lv_at hl 2 rfl) ?_
          refine lv_aload_n hx hb dL_law_1009 rfl (lv_at hl 0 rfl) ?_
          refine lv_iload_n hx hb dL_law_1010 rfl (lv_at hl 3 rfl) ?_
          refine lv_iconst (v := 1) hx hb dL_law_1011 (by decide) ?_
          refine lv_iadd hx hb dL_law_1012 (lv_topi (fun zi7223 ea7224 => ?_))
          have bd7225 : (1 : Int) ≤ zi7223.toInt ∧ zi7223.toInt ≤ 3067 := b_iadd ea7224 bd5789 bc_1 (by decide) (by decide) (by decide) (by decide)
          have qe7226 : zi7223.toInt = (zi2891 : Int32).toInt + (1 : Int32).toInt := e_iadd ea7224 bd5789 bc_1 (by decide) (by decide)
          have qe7227 : zi7223.toInt = zi2891.toInt + 1 := by have ha : (1 : Int32).toInt = 1 := (by decide); rw [ha] at qe7226; exact qe7226
          refine va_sld hx hb hX hbl hbA hS (vp_bv (by omega) (by omega)) dL_law_1013 (lv_topi (fun zi7228 ez7229 => ?_))
          refine kq_i hw hS hA (va_runV (As := [.int zi7228]) (rest := []) ⟨hx, hb, hml, hown, hT⟩ (cX12_restore_0 l G cy ev K ln Ls hW _ hp7216 ok7217 qa900 zi7228 kd2896) (cwV 1 hT (good_V tb_1957 tb_1954 tb_1955 tb_1956 tb_122) rfl rfl rfl (by decide +kernel) ⟨Nat.le_of_ble_eq_true rfl, Nat.le_of_ble_eq_true rfl⟩) (pool_preV (ci := 12) hK hE hS hA hw hW kd2896 (by decide) rfl) rfl rfl hl.1 rfl (lv_room (Nat.le_of_ble_eq_true rfl)) dL_law_1014 ⟨(show (400 + (gn - g0)) + 0 ≤ 600000 from by omega), (show (100000 + 14 * (gn - g0)) + 0 ≤ 7302250 from by omega)⟩) (fun zi7234 hp7230 H locs hq7233 hw hS => ?_)
          obtain ⟨ok7231, F7232, bd7235, hc7236, hc7237⟩ := hq7233
          have hw : PW G cy K ln Ls A hp7230 H := hw
          refine lv_pop hx hb dL_law_1017 rfl ?_
          refine lv_goto (tgt := 1044) hx hb dL_law_1018 (by decide) ?_
          obtain ⟨zi7238, ea7239⟩ : ∃ z : Int32, z = zi2891 + 6 := ⟨_, rfl⟩
          have bd7240 : (6 : Int) ≤ zi7238.toInt ∧ zi7238.toInt ≤ 3072 := b_iadd ea7239 bd5789 bc_6 (by decide) (by decide) (by decide) (by decide)
          have qe7241 : zi7238.toInt = (zi2891 : Int32).toInt + (6 : Int32).toInt := e_iadd ea7239 bd5789 bc_6 (by decide) (by decide)
          have qe7242 : zi7238.toInt = zi2891.toInt + 6 := by have ha : (6 : Int32).toInt = 6 := (by decide); rw [ha] at qe7241; exact qe7241
          refine lv_iinc (v := zi7238) (lv' := [(3, .int zi7238), (0, .ref b), (1, .ref qa901), (2, .ref qa900)]) hx hb dL_law_1044 hl (k := 3) rfl ea7239.symm (by decide) rfl (fun ls hl => ?_)
          refine lv_goto (tgt := 18) hx hb dL_law_1047 (by decide) ?_
          have pd7243 : NSx K ln hp7230 gn := NSx_fr ok2893  (show Fr [1005, 5005, 8000, 8001, 8002, 8003, 8004, 8005, 9001, 12008, 13053, 40000, 41000, 42000, 43000, 92000] K hp2892 hp7230 from (Fr.tr (Fr.tr (Fr.rf) F7218 (by decide)) F7232 (by decide))) (by decide) pd2894
          have pd7244 : LW hp7230 qa900 := LW_fr ok2893 kd2896 (show Fr [1005, 5005, 8000, 8001, 8002, 8003, 8004, 8005, 9001, 12008, 13053, 40000, 41000, 42000, 43000, 92000] K hp2892 hp7230 from (Fr.tr (Fr.tr (Fr.rf) F7218 (by decide)) F7232 (by decide))) (by decide) pd2895
          exact ih5774 K ln Ls gn hp7230 zi7238 _ _ ls (by have := hm5776; have := qe7242; omega) hW gex (FrX.tr gfx gex (FrX.of (show Fr [1005, 5005, 8000, 8001, 8002, 8003, 8004, 8005, 9001, 12008, 13053, 40000, 41000, 42000, 43000, 92000] K hp2892 hp7230 from (Fr.tr (Fr.tr (Fr.rf) F7218 (by decide)) F7232 (by decide)))) (by decide +kernel)) ok7231 pd7243 (by omega) pd7244 kd2896 kd2897 (b_wid2 bd7240 (by decide) (by decide)) (lv_sub hl [1, 2, 3, 0] rfl) hw hS
        by_cases cn5828 : zi5794 = 31
        · skip
          refine lv_tableIn (tgt := 1021) hx hb dL_law_33 (by rw [cn5828]; decide) (by rw [cn5828]; decide) (by rw [cn5828]; rfl) (by decide) ?_
          have bd7245 : (31 : Int) ≤ zi5794.toInt ∧ zi5794.toInt ≤ 31 := r_eq_x cn5828 bd5796 bc_31 (by decide) (by decide)
          refine lv_aload_n hx hb dL_law_1021 rfl (lv_at hl 1 rfl) ?_
          refine lv_aload_n hx hb dL_law_1022 rfl (lv_at hl 0 rfl) ?_
          refine lv_iload_n hx hb dL_law_1023 rfl (lv_at hl 3 rfl) ?_
          refine lv_iconst (v := 1) hx hb dL_law_1024 (by decide) ?_
          refine lv_iadd hx hb dL_law_1025 (lv_topi (fun zi7246 ea7247 => ?_))
          have bd7248 : (1 : Int) ≤ zi7246.toInt ∧ zi7246.toInt ≤ 3067 := b_iadd ea7247 bd5789 bc_1 (by decide) (by decide) (by decide) (by decide)
          have qe7249 : zi7246.toInt = (zi2891 : Int32).toInt + (1 : Int32).toInt := e_iadd ea7247 bd5789 bc_1 (by decide) (by decide)
          have qe7250 : zi7246.toInt = zi2891.toInt + 1 := by have ha : (1 : Int32).toInt = 1 := (by decide); rw [ha] at qe7249; exact qe7249
          refine va_sld hx hb hX hbl hbA hS (vp_bv (by omega) (by omega)) dL_law_1026 (lv_topi (fun zi7251 ez7252 => ?_))
          refine kq_i hw hS hA (va_runV (As := [.int zi7251]) (rest := []) ⟨hx, hb, hml, hown, hT⟩ (cX11_count_0 l G cy ev K ln Ls hW _ hp2892 ok2893 qa901 zi7251 kd2897) (cwV 1 hT (good_V tb_1356 tb_1353 tb_1354 tb_1355 tb_105) rfl rfl rfl (by decide +kernel) ⟨Nat.le_of_ble_eq_true rfl, Nat.le_of_ble_eq_true rfl⟩) (pool_preV (ci := 11) hK hE hS hA hw hW kd2897 (by decide) rfl) rfl rfl hl.1 rfl (lv_room (Nat.le_of_ble_eq_true rfl)) dL_law_1027 ⟨(show (400 + (gn - g0)) + 0 ≤ 600000 from by omega), (show (100000 + 14 * (gn - g0)) + 0 ≤ 7302250 from by omega)⟩) (fun zi7257 hp7253 H locs hq7256 hw hS => ?_)
          obtain ⟨ok7254, F7255⟩ := hq7256
          obtain rfl : hp2892 = hp7253 := (Fr.nil F7255).symm
          have hw : PW G cy K ln Ls A hp2892 H := hw
          refine lv_pop hx hb dL_law_1030 rfl ?_
          refine lv_aload_n hx hb dL_law_1031 rfl (lv_at hl 2 rfl) ?_
          refine lv_aload_n hx hb dL_law_1032 rfl (lv_at hl 0 rfl) ?_
          refine lv_iload_n hx hb dL_law_1033 rfl (lv_at hl 3 rfl) ?_
          refine lv_iconst (v := 1) hx hb dL_law_1034 (by decide) ?_
          refine lv_iadd hx hb dL_law_1035 (lv_topi (fun zi7258 ea7259 => ?_))
          have bd7260 : (1 : Int) ≤ zi7258.toInt ∧ zi7258.toInt ≤ 3067 := b_iadd ea7259 bd5789 bc_1 (by decide) (by decide) (by decide) (by decide)
          have qe7261 : zi7258.toInt = (zi2891 : Int32).toInt + (1 : Int32).toInt := e_iadd ea7259 bd5789 bc_1 (by decide) (by decide)
          have qe7262 : zi7258.toInt = zi2891.toInt + 1 := by have ha : (1 : Int32).toInt = 1 := (by decide); rw [ha] at qe7261; exact qe7261
          refine va_sld hx hb hX hbl hbA hS (vp_bv (by omega) (by omega)) dL_law_1036 (lv_topi (fun zi7263 ez7264 => ?_))
          refine kq_i hw hS hA (va_runV (As := [.int zi7263]) (rest := []) ⟨hx, hb, hml, hown, hT⟩ (cX12_count_0 l G cy ev K ln Ls hW _ hp2892 ok2893 qa900 zi7263 kd2896) (cwV 1 hT (good_V tb_1961 tb_1958 tb_1959 tb_1960 tb_122) rfl rfl rfl (by decide +kernel) ⟨Nat.le_of_ble_eq_true rfl, Nat.le_of_ble_eq_true rfl⟩) (pool_preV (ci := 12) hK hE hS hA hw hW kd2896 (by decide) rfl) rfl rfl hl.1 rfl (lv_room (Nat.le_of_ble_eq_true rfl)) dL_law_1037 ⟨(show (400 + (gn - g0)) + 0 ≤ 600000 from by omega), (show (100000 + 14 * (gn - g0)) + 0 ≤ 7302250 from by omega)⟩) (fun zi7269 hp7265 H locs hq7268 hw hS => ?_)
          obtain ⟨ok7266, F7267⟩ := hq7268
          have hw : PW G cy K ln Ls A hp7265 H := hw
          refine lv_pop hx hb dL_law_1040 rfl ?_
          refine lv_goto (tgt := 1044) hx hb dL_law_1041 (by decide) ?_
          obtain ⟨zi7270, ea7271⟩ : ∃ z : Int32, z = zi2891 + 6 := ⟨_, rfl⟩
          have bd7272 : (6 : Int) ≤ zi7270.toInt ∧ zi7270.toInt ≤ 3072 := b_iadd ea7271 bd5789 bc_6 (by decide) (by decide) (by decide) (by decide)
          have qe7273 : zi7270.toInt = (zi2891 : Int32).toInt + (6 : Int32).toInt := e_iadd ea7271 bd5789 bc_6 (by decide) (by decide)
          have qe7274 : zi7270.toInt = zi2891.toInt + 6 := by have ha : (6 : Int32).toInt = 6 := (by decide); rw [ha] at qe7273; exact qe7273
          refine lv_iinc (v := zi7270) (lv' := [(3, .int zi7270), (0, .ref b), (1, .ref qa901), (2, .ref qa900)]) hx hb dL_law_1044 hl (k := 3) rfl ea7271.symm (by decide) rfl (fun ls hl => ?_)
          refine lv_goto (tgt := 18) hx hb dL_law_1047 (by decide) ?_
          have pd7275 : NSx K ln hp7265 gn := NSx_fr ok2893  (show Fr [93000] K hp2892 hp7265 from (Fr.tr (Fr.rf) F7267 (by decide))) (by decide) pd2894
          have pd7276 : LW hp7265 qa900 := LW_fr ok2893 kd2896 (show Fr [93000] K hp2892 hp7265 from (Fr.tr (Fr.rf) F7267 (by decide))) (by decide) pd2895
          exact ih5774 K ln Ls gn hp7265 zi7270 _ _ ls (by have := hm5776; have := qe7274; omega) hW gex (FrX.tr gfx gex (FrX.of (show Fr [93000] K hp2892 hp7265 from (Fr.tr (Fr.rf) F7267 (by decide)))) (by decide +kernel)) ok7266 pd7275 (by omega) pd7276 kd2896 kd2897 (b_wid2 bd7272 (by decide) (by decide)) (lv_sub hl [1, 2, 3, 0] rfl) hw hS
        exact False.elim (by have := bd5796; omega)
  exact lp5775 _ K ln Ls gn hp0 0 _ _ ls (lp_in _) hW gex gfx ok1 pdNS (by omega) pdLW km kx (b_wid2 bc_0 (by decide) (by decide)) (lv_sub hl [3, 2, 1, 0] rfl) hw hS
