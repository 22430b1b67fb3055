-- rows over the pool
section PR
variable {p : Program} {l : Launch} {e : Env} {R : Room} {s : State} {m : MethodId} {args : Array Value} {below : List Frame} {meth : Method} {c : Code} {H : Heap} {locs : List Loc} {cells slots mc ms : Nat} {Q : State → Prop} {cc : ByteArray} {pc : Nat} {ls : Array Slot} {rest st0 : List Value} {G : va_G} {cy : Nat → ClassId} {ws : va_W} {A : Nat → Prop} {H0 : Heap} {K ln : Nat → Nat} {Ls : List Nat} {h : Nat → Nat → Value} {a : Nat}
theorem p_get (hx : p.tables.exec = Jvm.exec) (hb : c.code = cc) {own ref C : String} {T : u_T} {N ci index : Nat} (hT : ∀ w ∈ TB, w.before args s = true) (hin : ∀ w ∈ u_ws C T N, w ∈ TB) (hown : s.vm.findClass own = some m.cls) (hK : KK G cy s) (hw : PW G cy K ln Ls A h H) (hW : SW K ln Ls) (hk : K a = ci + 1) (h20 : ci + 1 < 20) (hN : nf (ci + 1) = N) (hc : vwCl[ci]? = some (C, T, N)) (k : Nat) (hkN : k < N) {v : Value} (hv : h a k = v) (hlink : (Cond.fieldLink own index ref (T k).2.1 (T k).2.2.1).before args s = true) (hsame : ∀ x, s.fieldFound? (T k).1 (T k).2.1 (T k).2.2.1 = some x → s.fieldFound? ref (T k).2.1 (T k).2.2.1 = some x) (hdg : decode cc pc = .ok (.getfield index, 3))
    (kk : W p l e R s m args below meth c H locs cells slots Q (F0 m (pc + 3) ls (v :: rest))) : W p l e R s m args below meth c H locs cells slots Q (F0 m pc ls (.ref a :: rest)) := by
  obtain ⟨q, hq⟩ := pool_at hw hW (a := a) (by rw [hk]; omega)
  rw [cell_o hk h20, Nat.add_sub_cancel] at hq
  exact va_get hx hb hT hin hown hK.1 hw.1 q hq hc k hkN hlink hsame (by rw [hN, List.getElem?_map, List.getElem?_range hkN, ← hv]; rfl) hdg kk
theorem p_getN (hx : p.tables.exec = Jvm.exec) (hb : c.code = cc) {own ref C host : String} {T : u_T} {N ci index : Nat} (hT : ∀ w ∈ TB, w.before args s = true) (hin : ∀ w ∈ u_ws C T N, w ∈ TB) (hown : s.vm.findClass own = some m.cls) (hK : KK G cy s) (hw : PW G cy K ln Ls A h H) (hW : SW K ln Ls) (hk : K a = ci + 1) (h20 : ci + 1 < 20) (hN : nf (ci + 1) = N) (hc : vwCl[ci]? = some (C, T, N)) (k : Nat) (hkN : k < N) {v : Value} (hv : h a k = v) (hlink : (Cond.fieldLinkNest own index ref (T k).2.1 (T k).2.2.1 host).before args s = true) (hsame : ∀ x, s.fieldFound? (T k).1 (T k).2.1 (T k).2.2.1 = some x → s.fieldFound? ref (T k).2.1 (T k).2.2.1 = some x) (hdg : decode cc pc = .ok (.getfield index, 3))
    (kk : W p l e R s m args below meth c H locs cells slots Q (F0 m (pc + 3) ls (v :: rest))) : W p l e R s m args below meth c H locs cells slots Q (F0 m pc ls (.ref a :: rest)) := by
  obtain ⟨q, hq⟩ := pool_at hw hW (a := a) (by rw [hk]; omega)
  rw [cell_o hk h20, Nat.add_sub_cancel] at hq
  exact va_getN hx hb hT hin hown hK.1 hw.1 q hq hc k hkN hlink hsame (by rw [hN, List.getElem?_map, List.getElem?_range hkN, ← hv]; rfl) hdg kk
theorem put_o {H1 : Heap} {q ci N k : Nat} {v : Value} (hw : PW G cy K ln Ls A h H) (hW : SW K ln Ls) (hk : K a = ci + 1) (h20 : ci + 1 < 20) (hN : nf (ci + 1) = N) (hkN : k < N) (hq : (va_pl Ls (cellOf cy K ln h))[q]? = some (a, cellOf cy K ln h a)) : (va_pl Ls (cellOf cy K ln h)).set q (a, .inr (ci, ((List.range N).map (h a)).set k v)) = va_pl Ls (cellOf cy K ln (up2 h a k v)) := by
  refine pl_set hw.2 (hW.1 a (by rw [hk]; omega)) hq ?_ (fun b hb => cell_row (up2_row hb))
  rw [cell_o hk h20, hN, Nat.add_sub_cancel, range_set hkN, up2_at]
theorem p_put (hx : p.tables.exec = Jvm.exec) (hb : c.code = cc) {own ref C : String} {T : u_T} {N ci index : Nat} (hT : ∀ w ∈ TB, w.before args s = true) (hin : ∀ w ∈ u_ws C T N, w ∈ TB) (ty0 : Nat → FieldType) (hty : ∀ k, k < N → parseFieldDescriptor (T k).2.2.1 = some (ty0 k)) (hnm : ∀ a, a < N → ∀ b, b < N → a ≠ b → (T a).2.1 ≠ (T b).2.1) (hown : s.vm.findClass own = some m.cls) (hK : KK G cy s) (hw : PW G cy K ln Ls A h H) (hS : va_S A H0 H locs) (hW : SW K ln Ls) (hk : K a = ci + 1) (h20 : ci + 1 < 20) (hN : nf (ci + 1) = N) (hc : vwCl[ci]? = some (C, T, N)) (k : Nat) (hkN : k < N) (hlink : (Cond.fieldLink own index ref (T k).2.1 (T k).2.2.1).before args s = true) (hsame : ∀ x, s.fieldFound? (T k).1 (T k).2.1 (T k).2.2.1 = some x → s.fieldFound? ref (T k).2.1 (T k).2.2.1 = some x) (hfin : (T k).2.2.2 = false) {ty : FieldType} {v : Value} (hd : parseFieldDescriptor (T k).2.2.1 = some ty) (hn : narrow ty v = v) (hfit : fits ty v = true) (hdg : decode cc pc = .ok (.putfield index, 3))
    (kk : ∀ h1, h1 = up2 h a k v → ∀ (H1 : Heap) (locs1 : List Loc), PW G cy K ln Ls A h1 H1 → va_S A H0 H1 locs1 → W p l e R s m args below meth c H1 locs1 cells slots Q (F0 m (pc + 3) ls rest)) : W p l e R s m args below meth c H locs cells slots Q (F0 m pc ls (v :: .ref a :: rest)) := by
  obtain ⟨q, hq⟩ := pool_at hw hW (a := a) (by rw [hk]; omega)
  have hq0 := hq
  rw [cell_o hk h20, hN, Nat.add_sub_cancel] at hq
  refine va_put hx hb hT hin ty0 hty hnm hown hK.1 hw.1 hw.2 hS q hq hc k hkN hlink hsame hfin hd hn hfit (by simpa using hkN) hdg (fun H1 l1 h1 h2 h3 => ?_)
  rw [put_o (H1 := H) hw hW hk h20 hN hkN hq0] at h1 h2
  exact kk _ rfl H1 l1 ⟨h1, h2⟩ h3
theorem p_putN (hx : p.tables.exec = Jvm.exec) (hb : c.code = cc) {own ref C host : String} {T : u_T} {N ci index : Nat} (hT : ∀ w ∈ TB, w.before args s = true) (hin : ∀ w ∈ u_ws C T N, w ∈ TB) (ty0 : Nat → FieldType) (hty : ∀ k, k < N → parseFieldDescriptor (T k).2.2.1 = some (ty0 k)) (hnm : ∀ a, a < N → ∀ b, b < N → a ≠ b → (T a).2.1 ≠ (T b).2.1) (hown : s.vm.findClass own = some m.cls) (hK : KK G cy s) (hw : PW G cy K ln Ls A h H) (hS : va_S A H0 H locs) (hW : SW K ln Ls) (hk : K a = ci + 1) (h20 : ci + 1 < 20) (hN : nf (ci + 1) = N) (hc : vwCl[ci]? = some (C, T, N)) (k : Nat) (hkN : k < N) (hlink : (Cond.fieldLinkNest own index ref (T k).2.1 (T k).2.2.1 host).before args s = true) (hsame : ∀ x, s.fieldFound? (T k).1 (T k).2.1 (T k).2.2.1 = some x → s.fieldFound? ref (T k).2.1 (T k).2.2.1 = some x) (hfin : (T k).2.2.2 = false) {ty : FieldType} {v : Value} (hd : parseFieldDescriptor (T k).2.2.1 = some ty) (hn : narrow ty v = v) (hfit : fits ty v = true) (hdg : decode cc pc = .ok (.putfield index, 3))
    (kk : ∀ h1, h1 = up2 h a k v → ∀ (H1 : Heap) (locs1 : List Loc), PW G cy K ln Ls A h1 H1 → va_S A H0 H1 locs1 → W p l e R s m args below meth c H1 locs1 cells slots Q (F0 m (pc + 3) ls rest)) : W p l e R s m args below meth c H locs cells slots Q (F0 m pc ls (v :: .ref a :: rest)) := by
  obtain ⟨q, hq⟩ := pool_at hw hW (a := a) (by rw [hk]; omega)
  have hq0 := hq
  rw [cell_o hk h20, hN, Nat.add_sub_cancel] at hq
  refine va_putN hx hb hT hin ty0 hty hnm hown hK.1 hw.1 hw.2 hS q hq hc k hkN hlink hsame hfin hd hn hfit (by simpa using hkN) hdg (fun H1 l1 h1 h2 h3 => ?_)
  rw [put_o (H1 := H) hw hW hk h20 hN hkN hq0] at h1 h2
  exact kk _ rfl H1 l1 ⟨h1, h2⟩ h3
-- arrays
theorem p_iald (hx : p.tables.exec = Jvm.exec) (hb : c.code = cc) (hK : KK G cy s) (hw : PW G cy K ln Ls A h H) (hW : SW K ln Ls) {kk0 n : Nat} (hk : K a = kk0) (h20 : ¬ kk0 < 20) (ht : aty kk0 = 1) (hn : ln a = n) {i v : Int32} (hin : vp_in i n) (hv : h a i.toNatClampNeg = .int v) (hdg : decode cc pc = .ok (.iaload, 1)) (k : W p l e R s m args below meth c H locs cells slots Q (F0 m (pc + 1) ls (.int v :: rest))) : W p l e R s m args below meth c H locs cells slots Q (F0 m pc ls (.int i :: .ref a :: rest)) := by
  obtain ⟨q, hq⟩ := pool_at hw hW (a := a) (by rw [hk]; omega)
  rw [cell_i hk h20 ht (by decide) (by decide), hn] at hq
  exact va_iald hx hb hK.1 hw.1 q 1 hq rfl hin hdg (by show W p l e R s m args below meth c H locs cells slots Q (F0 m (pc + 1) ls (.int (vI (h a i.toNatClampNeg)) :: rest)); rw [hv]; exact k)
theorem p_bald (hx : p.tables.exec = Jvm.exec) (hb : c.code = cc) (hK : KK G cy s) (hw : PW G cy K ln Ls A h H) (hW : SW K ln Ls) {kk0 n : Nat} (hk : K a = kk0) (h20 : ¬ kk0 < 20) (ht : aty kk0 = 0) (hn : ln a = n) {i v : Int32} (hin : vp_in i n) (hv : h a i.toNatClampNeg = .int v) (hdg : decode cc pc = .ok (.baload, 1)) (k : W p l e R s m args below meth c H locs cells slots Q (F0 m (pc + 1) ls (.int v :: rest))) : W p l e R s m args below meth c H locs cells slots Q (F0 m pc ls (.int i :: .ref a :: rest)) := by
  obtain ⟨q, hq⟩ := pool_at hw hW (a := a) (by rw [hk]; omega)
  rw [cell_i hk h20 ht (by decide) (by decide), hn] at hq
  exact va_bald hx hb hK.1 hw.1 q 0 hq rfl hin hdg (by show W p l e R s m args below meth c H locs cells slots Q (F0 m (pc + 1) ls (.int (vI (h a i.toNatClampNeg)) :: rest)); rw [hv]; exact k)
theorem p_zald (hx : p.tables.exec = Jvm.exec) (hb : c.code = cc) (hK : KK G cy s) (hw : PW G cy K ln Ls A h H) (hW : SW K ln Ls) {kk0 n : Nat} (hk : K a = kk0) (h20 : ¬ kk0 < 20) (ht : aty kk0 = 3) (hn : ln a = n) {i v : Int32} (hin : vp_in i n) (hv : h a i.toNatClampNeg = .int v) (hdg : decode cc pc = .ok (.baload, 1)) (k : W p l e R s m args below meth c H locs cells slots Q (F0 m (pc + 1) ls (.int v :: rest))) : W p l e R s m args below meth c H locs cells slots Q (F0 m pc ls (.int i :: .ref a :: rest)) := by
  obtain ⟨q, hq⟩ := pool_at hw hW (a := a) (by rw [hk]; omega)
  rw [cell_i hk h20 ht (by decide) (by decide), hn] at hq
  exact va_zald hx hb hK.1 hw.1 q 3 hq rfl hin hdg (by show W p l e R s m args below meth c H locs cells slots Q (F0 m (pc + 1) ls (.int (vI (h a i.toNatClampNeg)) :: rest)); rw [hv]; exact k)
theorem p_lald (hx : p.tables.exec = Jvm.exec) (hb : c.code = cc) (hK : KK G cy s) (hw : PW G cy K ln Ls A h H) (hW : SW K ln Ls) {kk0 n : Nat} (hk : K a = kk0) (h20 : ¬ kk0 < 20) (ht : aty kk0 = 2) (hn : ln a = n) {i : Int32} {v : Int64} (hin : vp_in i n) (hv : h a i.toNatClampNeg = .long v) (hdg : decode cc pc = .ok (.laload, 1)) (k : W p l e R s m args below meth c H locs cells slots Q (F0 m (pc + 1) ls (.long v :: rest))) : W p l e R s m args below meth c H locs cells slots Q (F0 m pc ls (.int i :: .ref a :: rest)) := by
  obtain ⟨q, hq⟩ := pool_at hw hW (a := a) (by rw [hk]; omega)
  rw [cell_l hk h20 ht, hn] at hq
  exact va_lald hx hb hK.1 hw.1 q 2 hq rfl hin hdg (by show W p l e R s m args below meth c H locs cells slots Q (F0 m (pc + 1) ls (.long (vL (h a i.toNatClampNeg)) :: rest)); rw [hv]; exact k)
theorem p_aald (hx : p.tables.exec = Jvm.exec) (hb : c.code = cc) (hK : KK G cy s) (hw : PW G cy K ln Ls A h H) (hW : SW K ln Ls) {kk0 n t : Nat} {C : String} (hk : K a = kk0) (h20 : ¬ kk0 < 20) (ht : aty kk0 = t) (h2 : ¬ t = 2) (h4 : ¬ t < 4) (hty : (TY cy)[t]? = some (cy t, .object C)) (hn : ln a = n) {i : Int32} {v : Nat} (hin : vp_in i n) (hv : h a i.toNatClampNeg = .ref v) (hdg : decode cc pc = .ok (.aaload, 1)) (k : W p l e R s m args below meth c H locs cells slots Q (F0 m (pc + 1) ls (.ref v :: rest))) : W p l e R s m args below meth c H locs cells slots Q (F0 m pc ls (.int i :: .ref a :: rest)) := by
  obtain ⟨q, hq⟩ := pool_at hw hW (a := a) (by rw [hk]; omega)
  rw [cell_r hk h20 ht h2 h4, hn] at hq
  exact kx_aldq hx hb hK hw.1 q t hq hty hin hdg (by show vR (h a i.toNatClampNeg) = some v; rw [hv]; rfl) k
theorem upd_up {k : Nat} {x : Int32} : upd (fun i => vI (h a i)) k x = fun i => vI (up2 h a k (.int x) a i) := by
  funext j
  by_cases e : j = k <;> simp [upd, up2, e, vI]
theorem updL_up {k : Nat} {x : Int64} : vp_updL (fun i => vL (h a i)) k x = fun i => vL (up2 h a k (.long x) a i) := by
  funext j
  by_cases e : j = k <;> simp [vp_updL, up2, e, vL]
theorem p_iast (hx : p.tables.exec = Jvm.exec) (hb : c.code = cc) (hK : KK G cy s) (hw : PW G cy K ln Ls A h H) (hS : va_S A H0 H locs) (hW : SW K ln Ls) {kk0 n : Nat} (hk : K a = kk0) (h20 : ¬ kk0 < 20) (ht : aty kk0 = 1) (hn : ln a = n) {i x : Int32} (hin : vp_in i n) (hdg : decode cc pc = .ok (.iastore, 1))
    (kk : ∀ h1, h1 = up2 h a i.toNatClampNeg (.int x) → ∀ (H1 : Heap) (locs1 : List Loc), PW G cy K ln Ls A h1 H1 → va_S A H0 H1 locs1 → W p l e R s m args below meth c H1 locs1 cells slots Q (F0 m (pc + 1) ls rest)) : W p l e R s m args below meth c H locs cells slots Q (F0 m pc ls (.int x :: .int i :: .ref a :: rest)) := by
  obtain ⟨q, hq⟩ := pool_at hw hW (a := a) (by rw [hk]; omega)
  have hq0 := hq
  rw [cell_i hk h20 ht (by decide) (by decide), hn] at hq
  refine va_iast hx hb hK.1 hw.1 hw.2 hS q 1 hq rfl hin hdg (fun H1 l1 h1 h2 h3 => ?_)
  have e := pl_set (f' := cellOf cy K ln (up2 h a i.toNatClampNeg (.int x))) (e := .inl (cy 1, n, .inl (upd (fun i => vI (h a i)) i.toNatClampNeg x))) hw.2 (hW.1 a (by rw [hk]; omega)) hq0 (by rw [cell_i hk h20 ht (by decide) (by decide), hn, upd_up]) (fun b hb => cell_row (up2_row hb))
  rw [e] at h1 h2
  exact kk _ rfl H1 l1 ⟨h1, h2⟩ h3
theorem p_bast (hx : p.tables.exec = Jvm.exec) (hb : c.code = cc) (hK : KK G cy s) (hw : PW G cy K ln Ls A h H) (hS : va_S A H0 H locs) (hW : SW K ln Ls) {kk0 n : Nat} (hk : K a = kk0) (h20 : ¬ kk0 < 20) (ht : aty kk0 = 0) (hn : ln a = n) {i x : Int32} (hin : vp_in i n) (hdg : decode cc pc = .ok (.bastore, 1))
    (kk : ∀ h1, h1 = up2 h a i.toNatClampNeg (.int (vp_nar .byte x)) → ∀ (H1 : Heap) (locs1 : List Loc), PW G cy K ln Ls A h1 H1 → va_S A H0 H1 locs1 → W p l e R s m args below meth c H1 locs1 cells slots Q (F0 m (pc + 1) ls rest)) : W p l e R s m args below meth c H locs cells slots Q (F0 m pc ls (.int x :: .int i :: .ref a :: rest)) := by
  obtain ⟨q, hq⟩ := pool_at hw hW (a := a) (by rw [hk]; omega)
  have hq0 := hq
  rw [cell_i hk h20 ht (by decide) (by decide), hn] at hq
  refine va_bast hx hb hK.1 hw.1 hw.2 hS q 0 hq rfl hin hdg (fun H1 l1 h1 h2 h3 => ?_)
  have e := pl_set (f' := cellOf cy K ln (up2 h a i.toNatClampNeg (.int (vp_nar .byte x)))) (e := .inl (cy 0, n, .inl (upd (fun i => vI (h a i)) i.toNatClampNeg (vp_nar .byte x)))) hw.2 (hW.1 a (by rw [hk]; omega)) hq0 (by rw [cell_i hk h20 ht (by decide) (by decide), hn, upd_up]) (fun b hb => cell_row (up2_row hb))
  rw [e] at h1 h2
  exact kk _ rfl H1 l1 ⟨h1, h2⟩ h3
theorem p_zast (hx : p.tables.exec = Jvm.exec) (hb : c.code = cc) (hK : KK G cy s) (hw : PW G cy K ln Ls A h H) (hS : va_S A H0 H locs) (hW : SW K ln Ls) {kk0 n : Nat} (hk : K a = kk0) (h20 : ¬ kk0 < 20) (ht : aty kk0 = 3) (hn : ln a = n) {i x : Int32} (hin : vp_in i n) (hdg : decode cc pc = .ok (.bastore, 1))
    (kk : ∀ h1, h1 = up2 h a i.toNatClampNeg (.int (vp_nar .boolean x)) → ∀ (H1 : Heap) (locs1 : List Loc), PW G cy K ln Ls A h1 H1 → va_S A H0 H1 locs1 → W p l e R s m args below meth c H1 locs1 cells slots Q (F0 m (pc + 1) ls rest)) : W p l e R s m args below meth c H locs cells slots Q (F0 m pc ls (.int x :: .int i :: .ref a :: rest)) := by
  obtain ⟨q, hq⟩ := pool_at hw hW (a := a) (by rw [hk]; omega)
  have hq0 := hq
  rw [cell_i hk h20 ht (by decide) (by decide), hn] at hq
  refine va_zast hx hb hK.1 hw.1 hw.2 hS q 3 hq rfl hin hdg (fun H1 l1 h1 h2 h3 => ?_)
  have e := pl_set (f' := cellOf cy K ln (up2 h a i.toNatClampNeg (.int (vp_nar .boolean x)))) (e := .inl (cy 3, n, .inl (upd (fun i => vI (h a i)) i.toNatClampNeg (vp_nar .boolean x)))) hw.2 (hW.1 a (by rw [hk]; omega)) hq0 (by rw [cell_i hk h20 ht (by decide) (by decide), hn, upd_up]) (fun b hb => cell_row (up2_row hb))
  rw [e] at h1 h2
  exact kk _ rfl H1 l1 ⟨h1, h2⟩ h3
theorem p_last (hx : p.tables.exec = Jvm.exec) (hb : c.code = cc) (hK : KK G cy s) (hw : PW G cy K ln Ls A h H) (hS : va_S A H0 H locs) (hW : SW K ln Ls) {kk0 n : Nat} (hk : K a = kk0) (h20 : ¬ kk0 < 20) (ht : aty kk0 = 2) (hn : ln a = n) {i : Int32} {x : Int64} (hin : vp_in i n) (hdg : decode cc pc = .ok (.lastore, 1))
    (kk : ∀ h1, h1 = up2 h a i.toNatClampNeg (.long x) → ∀ (H1 : Heap) (locs1 : List Loc), PW G cy K ln Ls A h1 H1 → va_S A H0 H1 locs1 → W p l e R s m args below meth c H1 locs1 cells slots Q (F0 m (pc + 1) ls rest)) : W p l e R s m args below meth c H locs cells slots Q (F0 m pc ls (.long x :: .int i :: .ref a :: rest)) := by
  obtain ⟨q, hq⟩ := pool_at hw hW (a := a) (by rw [hk]; omega)
  have hq0 := hq
  rw [cell_l hk h20 ht, hn] at hq
  refine va_last hx hb hK.1 hw.1 hw.2 hS q 2 hq rfl hin hdg (fun H1 l1 h1 h2 h3 => ?_)
  have e := pl_set (f' := cellOf cy K ln (up2 h a i.toNatClampNeg (.long x))) (e := .inl (cy 2, n, .inr (.inl (vp_updL (fun i => vL (h a i)) i.toNatClampNeg x)))) hw.2 (hW.1 a (by rw [hk]; omega)) hq0 (by rw [cell_l hk h20 ht, hn, updL_up]) (fun b hb => cell_row (up2_row hb))
  rw [e] at h1 h2
  exact kk _ rfl H1 l1 ⟨h1, h2⟩ h3
theorem p_alen (hx : p.tables.exec = Jvm.exec) (hb : c.code = cc) (hK : KK G cy s) (hw : PW G cy K ln Ls A h H) (hW : SW K ln Ls) {kk0 t : Nat} {ty : FieldType} (hk : K a = kk0) (h20 : ¬ kk0 < 20) (ht : aty kk0 = t) (hty : (TY cy)[t]? = some (cy t, ty)) {v : Int32} (hv : Int32.ofNat (ln a) = v) (hdg : decode cc pc = .ok (.arraylength, 1)) (k : W p l e R s m args below meth c H locs cells slots Q (F0 m (pc + 1) ls (.int v :: rest))) : W p l e R s m args below meth c H locs cells slots Q (F0 m pc ls (.ref a :: rest)) := by
  obtain ⟨q, hq⟩ := pool_at hw hW (a := a) (by rw [hk]; omega)
  by_cases h2 : t = 2
  · subst h2
    rw [cell_l hk h20 ht] at hq
    exact va_alen hx hb hK.1 hw.1 q 2 hq hty hv hdg k
  · by_cases h4 : t < 4
    · rw [cell_i hk h20 ht h2 h4] at hq
      exact va_alen hx hb hK.1 hw.1 q t hq hty hv hdg k
    · rw [cell_r hk h20 ht h2 h4] at hq
      exact va_alen hx hb hK.1 hw.1 q t hq hty hv hdg k
-- calls over the whole pool, and ends
theorem kq_v {S : Type} {post : S → Prop} {W2 : S → va_W} {av : Array Value} (hw : va_P G vwCl ws H ∧ va_D A ws) (hS : va_S A H0 H locs) (hA : ∀ q, H0.size ≤ q → A q)
    (hr : va_Run p l e R s m args below meth c H locs cells slots mc ms (F0 m pc ls st0) rest (QBv post G W2 (va_A ws H.size) av) (va_A ws H.size))
    (kk : ∀ (u : S) (H1 : Heap) (locs1 : List Loc), post u → va_P G vwCl (W2 u) H1 ∧ va_D A (W2 u) → va_S A H0 H1 locs1 → W p l e R s m args below meth c H1 locs1 (cells + mc) (slots + ms) Q (F0 m (pc + 3) ls rest)) : W p l e R s m args below meth c H locs cells slots Q (F0 m pc ls st0) := by
  have hFc := free_all hw.2 hS hA
  refine va_callv hr hS (fun q _ h => hFc q h) hFc (fun u t H1 locs1 ht hvm hw2 hB hz1 hk1 hS1 => ?_)
  obtain ⟨hP1, hD1⟩ := hB
  rw [ht] at hP1
  exact kk u H1 locs1 hw2 ⟨hP1, hD1.weaken (fun _ q _ h => hFc q.1 h)⟩ hS1
theorem kq_i {S : Type} {post : Int32 → S → Prop} {W2 : S → va_W} {av : Array Value} (hw : va_P G vwCl ws H ∧ va_D A ws) (hS : va_S A H0 H locs) (hA : ∀ q, H0.size ≤ q → A q)
    (hr : va_Run p l e R s m args below meth c H locs cells slots mc ms (F0 m pc ls st0) rest (QBi post G W2 (va_A ws H.size) av) (va_A ws H.size))
    (kk : ∀ (r : Int32) (u : S) (H1 : Heap) (locs1 : List Loc), post r u → va_P G vwCl (W2 u) H1 ∧ va_D A (W2 u) → va_S A H0 H1 locs1 → W p l e R s m args below meth c H1 locs1 (cells + mc) (slots + ms) Q (F0 m (pc + 3) ls (.int r :: rest))) : W p l e R s m args below meth c H locs cells slots Q (F0 m pc ls st0) := by
  have hFc := free_all hw.2 hS hA
  refine va_calli hr hS (fun q _ h => hFc q h) hFc (fun r u t H1 locs1 ht hvm hw2 hB hz1 hk1 hS1 => ?_)
  obtain ⟨hP1, hD1⟩ := hB
  rw [ht] at hP1
  exact kk r u H1 locs1 hw2 ⟨hP1, hD1.weaken (fun _ q _ h => hFc q.1 h)⟩ hS1
theorem kq_l {S : Type} {post : Int64 → S → Prop} {W2 : S → va_W} {av : Array Value} (hw : va_P G vwCl ws H ∧ va_D A ws) (hS : va_S A H0 H locs) (hA : ∀ q, H0.size ≤ q → A q)
    (hr : va_Run p l e R s m args below meth c H locs cells slots mc ms (F0 m pc ls st0) rest (QBl post G W2 (va_A ws H.size) av) (va_A ws H.size))
    (kk : ∀ (r : Int64) (u : S) (H1 : Heap) (locs1 : List Loc), post r u → va_P G vwCl (W2 u) H1 ∧ va_D A (W2 u) → va_S A H0 H1 locs1 → W p l e R s m args below meth c H1 locs1 (cells + mc) (slots + ms) Q (F0 m (pc + 3) ls (.long r :: rest))) : W p l e R s m args below meth c H locs cells slots Q (F0 m pc ls st0) := by
  have hFc := free_all hw.2 hS hA
  refine va_calll hr hS (fun q _ h => hFc q h) hFc (fun r u t H1 locs1 ht hvm hw2 hB hz1 hk1 hS1 => ?_)
  obtain ⟨hP1, hD1⟩ := hB
  rw [ht] at hP1
  exact kk r u H1 locs1 hw2 ⟨hP1, hD1.weaken (fun _ q _ h => hFc q.1 h)⟩ hS1
theorem kz_v {S : Type} {post : S → Prop} {W2 : S → va_W} {k n : Nat} (hx : p.tables.exec = Jvm.exec) (hb : c.code = cc) (hr : meth.sig.returnType = none) (hlocks : meth.locks = false) (hS : va_S A s.heap H locs) (u : S) (hw : va_P G vwCl (W2 u) H ∧ va_D A (W2 u)) (hp : post u) (h1 : cells ≤ k) (h2 : slots ≤ n) (hdg : decode cc pc = .ok (.return_, 1)) : W p l e R s m args below meth c H locs cells slots (MQ below (QBv post G W2 A) args s k n A) (F0 m pc ls []) :=
  W.widen h1 h2 (W.vret hx hb hr (fun t ht _ => ⟨⟨u, rfl, hp, by rw [ht]; exact hw.1, hw.2⟩, hS.F ht⟩) hS.2.2 hdg hlocks)
theorem kz_i {S : Type} {post : Int32 → S → Prop} {W2 : S → va_W} {k n : Nat} {v : Int32} {ty : FieldType} (hx : p.tables.exec = Jvm.exec) (hb : c.code = cc) (hr : meth.sig.returnType = some ty) (hlocks : meth.locks = false) (hS : va_S A s.heap H locs) (hv : narrow ty (.int v) = .int v) (u : S) (hw : va_P G vwCl (W2 u) H ∧ va_D A (W2 u)) (hp : post v u) (h1 : cells ≤ k) (h2 : slots ≤ n) (hdg : decode cc pc = .ok (.ireturn, 1)) : W p l e R s m args below meth c H locs cells slots (MQ below (QBi post G W2 A) args s k n A) (F0 m pc ls [.int v]) :=
  W.widen h1 h2 (W.zret hx hb hr hv (fun t ht _ => ⟨⟨v, u, rfl, hp, by rw [ht]; exact hw.1, hw.2⟩, hS.F ht⟩) hS.2.2 hdg hlocks)
theorem kz_l {S : Type} {post : Int64 → S → Prop} {W2 : S → va_W} {k n : Nat} {v : Int64} (hx : p.tables.exec = Jvm.exec) (hb : c.code = cc) (hr : meth.sig.returnType = some .long) (hlocks : meth.locks = false) (hS : va_S A s.heap H locs) (u : S) (hw : va_P G vwCl (W2 u) H ∧ va_D A (W2 u)) (hp : post v u) (h1 : cells ≤ k) (h2 : slots ≤ n) (hdg : decode cc pc = .ok (.lreturn, 1)) : W p l e R s m args below meth c H locs cells slots (MQ below (QBl post G W2 A) args s k n A) (F0 m pc ls [.long v]) :=
  W.widen h1 h2 (W.lret hx hb hr (fun t ht _ => ⟨⟨v, u, rfl, hp, by rw [ht]; exact hw.1, hw.2⟩, hS.F ht⟩) hS.2.2 hdg hlocks)
end PR
