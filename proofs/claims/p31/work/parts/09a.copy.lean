-- System.arraycopy between rows of the pool
def cpy2 (h : Nat → Nat → Value) (a0 a1 sp dp n : Nat) : Nat → Nat → Value := fun b j => if b = a1 ∧ (dp ≤ j ∧ j < dp + n) then h a0 (sp + (j - dp)) else h b j
theorem cpy2_row {h : Nat → Nat → Value} {a0 a1 sp dp n b : Nat} (hb : b ≠ a1) : cpy2 h a0 a1 sp dp n b = h b := funext fun j => by
  unfold cpy2
  rw [if_neg (fun e => hb e.1)]
theorem cpy2_ok {K : Nat → Nat} {h : Nat → Nat → Value} {a0 a1 sp dp n k0 k1 cq : Nat} (ok : Ok K h) (hk0 : K a0 = k0) (hk1 : K a1 = k1) (h00 : ¬ k0 < 20) (h01 : ¬ k1 < 20) (hc : k1 * 1000 = cq) (hx : ∀ v, okc K (k0 * 1000) v → okc K cq v) : Ok K (cpy2 h a0 a1 sp dp n) := by
  intro b j hb
  unfold cpy2
  by_cases e : b = a1 ∧ (dp ≤ j ∧ j < dp + n)
  · rw [if_pos e, e.1, hk1, cd_a h01, hc]
    refine hx _ ?_
    have := ok a0 (sp + (j - dp)) (by rw [hk0]; omega)
    rw [hk0, cd_a h00] at this
    exact this
  · rw [if_neg e]
    exact ok b j hb
theorem cpy2_fr {K : Nat → Nat} {h : Nat → Nat → Value} {a0 a1 sp dp n k1 cq : Nat} (hk1 : K a1 = k1) (h01 : ¬ k1 < 20) (hc : k1 * 1000 = cq) : Fr [cq] K h (cpy2 h a0 a1 sp dp n) := by
  intro b j hb
  unfold cpy2
  rw [if_neg]
  intro e
  rw [e.1, hk1, cd_a h01, hc] at hb
  simp at hb
theorem cpy2_i {h : Nat → Nat → Value} {a0 a1 sp dp n : Nat} : va_cpy (fun i => vI (h a0 i)) (fun i => vI (h a1 i)) sp dp n = fun i => vI (cpy2 h a0 a1 sp dp n a1 i) := by
  funext j
  unfold va_cpy cpy2
  by_cases e : dp ≤ j ∧ j < dp + n
  · rw [if_pos e, if_pos ⟨rfl, e⟩]
  · rw [if_neg e, if_neg (fun q => e q.2)]
section CP
variable {p : Program} {l : Launch} {e : Env} {R : Room} {s : State} {m : MethodId} {args : Array Value} {below : List Frame} {meth : Method} {c : Code} {H : Heap} {locs : List Loc} {cells slots : Nat} {Q : State → Prop} {cc : ByteArray} {pc : Nat} {ls : Array Slot} {rest : List Value} {G : va_G} {cy : Nat → ClassId} {A : Nat → Prop} {H0 : Heap} {K ln : Nat → Nat} {Ls : List Nat} {h : Nat → Nat → Value} {a0 a1 : Nat}
theorem p_copyT {ty : FieldType} {t : Nat} (hx : p.tables.exec = Jvm.exec) (hb : c.code = cc) (hml : c.maxLocals = ls.size) {own : String} {index : Nat} (hown : s.vm.findClass own = some m.cls) (hlink : (Cond.methodLink own index arraycopyName).before args s = true) (hnat : (Cond.native arraycopyName).before args s = true) (hstat : (Cond.static arraycopyName).before args s = true) (hini : (Cond.initialized "java/lang/System").before args s = true)
    (hK : KK G cy s) (hw : PW G cy K ln Ls A h H) (hS : va_S A H0 H locs) (hW : SW K ln Ls) {k0 k1 n0 n1 cq : Nat} (ok : Ok K h) (hk0 : K a0 = k0) (hk1 : K a1 = k1) (h00 : ¬ k0 < 20) (h01 : ¬ k1 < 20) (ht0 : aty k0 = t) (ht1 : aty k1 = t) (hl0 : ln a0 = n0) (hl1 : ln a1 = n1) (ho : ∀ v, okc K (k0 * 1000) v → okc K cq v)
    {sp dp n : Int32} {x0 x1 y0 y1 z0 z1 : Int} (b1 : x0 ≤ sp.toInt ∧ sp.toInt ≤ x1) (b2 : y0 ≤ dp.toInt ∧ dp.toInt ≤ y1) (b3 : z0 ≤ n.toInt ∧ n.toInt ≤ z1) (p1 : 0 ≤ x0) (p2 : 0 ≤ y0) (p3 : 0 ≤ z0) (p4 : x1 + z1 ≤ n0) (p5 : y1 + z1 ≤ n1) (hc : k1 * 1000 = cq) (h2 : ¬ t = 2) (h4 : t < 4) (hty : (TY cy)[t]? = some (cy t, ty)) (hprim : refKind ty = false) (hfit : ∀ j, fits ty (.int (vI (h a0 j))) = true)
    (hframes : 1 ≤ R.frames) (hlocals : (rest.map fun v => v.category).sum + (nativeFrameWords "java/lang/System" "arraycopy" 5 + 11) ≤ R.locals) (hdg : decode cc pc = .ok (.invokestatic index, 3))
    (kk : ∀ h1, Ok K h1 → Fr [cq] K h h1 → ∀ (H1 : Heap) (locs1 : List Loc), PW G cy K ln Ls A h1 H1 → va_S A H0 H1 locs1 → W p l e R s m args below meth c H1 locs1 cells slots Q (F0 m (pc + 3) ls rest)) : W p l e R s m args below meth c H locs cells slots Q (F0 m pc ls (.int n :: .int dp :: .ref a1 :: .int sp :: .ref a0 :: rest)) := by
  obtain ⟨q0, hq0⟩ := pool_at hw hW (a := a0) (by rw [hk0]; omega)
  obtain ⟨q1, hq1⟩ := pool_at hw hW (a := a1) (by rw [hk1]; omega)
  have hq1' := hq1
  rw [cell_i hk0 h00 ht0 h2 h4, hl0] at hq0
  rw [cell_i hk1 h01 ht1 h2 h4, hl1] at hq1
  have hz0 : (0 : Int32).toInt = 0 := by decide
  obtain ⟨N1, e1, g1, g2, g3⟩ := b_of b1 p1
  obtain ⟨N2, e2, g4, g5, g6⟩ := b_of b2 p2
  obtain ⟨N3, e3, g7, g8, g9⟩ := b_of b3 p3
  subst e1; subst e2; subst e3
  refine va_copyi (ty := ty) hx hb hml hown hlink hnat hstat hini hK.1 hw.1 hw.2 hS q0 q1 t t hq0 hq1 hty hty hprim (nI_pos g3) (nI_pos g6) (nI_pos g9) ?_ ?_ (fun i _ => hfit _) hframes hlocals hdg (fun H1 l1 h1 h2' h3 => ?_)
  · rw [nI_clamp g3, nI_clamp g9]; omega
  · rw [nI_clamp g6, nI_clamp g9]; omega
  · have e := pl_set (f' := cellOf cy K ln (cpy2 h a0 a1 (nI N1).toNatClampNeg (nI N2).toNatClampNeg (nI N3).toNatClampNeg)) (e := .inl (cy t, n1, .inl (va_cpy (fun i => vI (h a0 i)) (fun i => vI (h a1 i)) (nI N1).toNatClampNeg (nI N2).toNatClampNeg (nI N3).toNatClampNeg))) hw.2 (hW.1 a1 (by rw [hk1]; omega)) hq1' (by rw [cell_i hk1 h01 ht1 h2 h4, hl1, cpy2_i]) (fun b hb => cell_row (cpy2_row hb))
    rw [e] at h1 h2'
    exact kk _ (cpy2_ok ok hk0 hk1 h00 h01 hc ho) (cpy2_fr hk1 h01 hc) H1 l1 ⟨h1, h2'⟩ h3
theorem p_copy1 (hx : p.tables.exec = Jvm.exec) (hb : c.code = cc) (hml : c.maxLocals = ls.size) {own : String} {index : Nat} (hown : s.vm.findClass own = some m.cls) (hlink : (Cond.methodLink own index arraycopyName).before args s = true) (hnat : (Cond.native arraycopyName).before args s = true) (hstat : (Cond.static arraycopyName).before args s = true) (hini : (Cond.initialized "java/lang/System").before args s = true)
    (hK : KK G cy s) (hw : PW G cy K ln Ls A h H) (hS : va_S A H0 H locs) (hW : SW K ln Ls) {k0 k1 n0 n1 cq : Nat} (ok : Ok K h) (hk0 : K a0 = k0) (hk1 : K a1 = k1) (h00 : ¬ k0 < 20) (h01 : ¬ k1 < 20) (ht0 : aty k0 = 1) (ht1 : aty k1 = 1) (hl0 : ln a0 = n0) (hl1 : ln a1 = n1) (ho : ∀ v, okc K (k0 * 1000) v → okc K cq v)
    {sp dp n : Int32} {x0 x1 y0 y1 z0 z1 : Int} (b1 : x0 ≤ sp.toInt ∧ sp.toInt ≤ x1) (b2 : y0 ≤ dp.toInt ∧ dp.toInt ≤ y1) (b3 : z0 ≤ n.toInt ∧ n.toInt ≤ z1) (p1 : 0 ≤ x0) (p2 : 0 ≤ y0) (p3 : 0 ≤ z0) (p4 : x1 + z1 ≤ n0) (p5 : y1 + z1 ≤ n1)
    (hframes : 1 ≤ R.frames) (hlocals : (rest.map fun v => v.category).sum + (nativeFrameWords "java/lang/System" "arraycopy" 5 + 11) ≤ R.locals) (hdg : decode cc pc = .ok (.invokestatic index, 3)) (hc : k1 * 1000 = cq)
    (kk : ∀ h1, Ok K h1 → Fr [cq] K h h1 → ∀ (H1 : Heap) (locs1 : List Loc), PW G cy K ln Ls A h1 H1 → va_S A H0 H1 locs1 → W p l e R s m args below meth c H1 locs1 cells slots Q (F0 m (pc + 3) ls rest)) : W p l e R s m args below meth c H locs cells slots Q (F0 m pc ls (.int n :: .int dp :: .ref a1 :: .int sp :: .ref a0 :: rest)) :=
  p_copyT (ty := .int) (t := 1) hx hb hml hown hlink hnat hstat hini hK hw hS hW ok hk0 hk1 h00 h01 ht0 ht1 hl0 hl1 ho b1 b2 b3 p1 p2 p3 p4 p5 hc (by decide) (by decide) rfl rfl (fun _ => rfl) hframes hlocals hdg kk
theorem p_copy0 (hx : p.tables.exec = Jvm.exec) (hb : c.code = cc) (hml : c.maxLocals = ls.size) {own : String} {index : Nat} (hown : s.vm.findClass own = some m.cls) (hlink : (Cond.methodLink own index arraycopyName).before args s = true) (hnat : (Cond.native arraycopyName).before args s = true) (hstat : (Cond.static arraycopyName).before args s = true) (hini : (Cond.initialized "java/lang/System").before args s = true)
    (hK : KK G cy s) (hw : PW G cy K ln Ls A h H) (hS : va_S A H0 H locs) (hW : SW K ln Ls) {k0 k1 n0 n1 cq : Nat} (ok : Ok K h) (hk0 : K a0 = k0) (hk1 : K a1 = k1) (h00 : ¬ k0 < 20) (h01 : ¬ k1 < 20) (ht0 : aty k0 = 0) (ht1 : aty k1 = 0) (hl0 : ln a0 = n0) (hl1 : ln a1 = n1) (ho : ∀ v, okc K (k0 * 1000) v → okc K cq v)
    {sp dp n : Int32} {x0 x1 y0 y1 z0 z1 : Int} (b1 : x0 ≤ sp.toInt ∧ sp.toInt ≤ x1) (b2 : y0 ≤ dp.toInt ∧ dp.toInt ≤ y1) (b3 : z0 ≤ n.toInt ∧ n.toInt ≤ z1) (p1 : 0 ≤ x0) (p2 : 0 ≤ y0) (p3 : 0 ≤ z0) (p4 : x1 + z1 ≤ n0) (p5 : y1 + z1 ≤ n1)
    (hframes : 1 ≤ R.frames) (hlocals : (rest.map fun v => v.category).sum + (nativeFrameWords "java/lang/System" "arraycopy" 5 + 11) ≤ R.locals) (hdg : decode cc pc = .ok (.invokestatic index, 3)) (hbyt : tabL.contains (k0 * 1000) = false ∧ tabR.lookup (k0 * 1000) = none ∧ tabI.lookup (k0 * 1000) = some (-128, 127)) (hc : k1 * 1000 = cq)
    (kk : ∀ h1, Ok K h1 → Fr [cq] K h h1 → ∀ (H1 : Heap) (locs1 : List Loc), PW G cy K ln Ls A h1 H1 → va_S A H0 H1 locs1 → W p l e R s m args below meth c H1 locs1 cells slots Q (F0 m (pc + 3) ls rest)) : W p l e R s m args below meth c H locs cells slots Q (F0 m pc ls (.int n :: .int dp :: .ref a1 :: .int sp :: .ref a0 :: rest)) :=
  p_copyT (ty := .byte) (t := 0) hx hb hml hown hlink hnat hstat hini hK hw hS hW ok hk0 hk1 h00 h01 ht0 ht1 hl0 hl1 ho b1 b2 b3 p1 p2 p3 p4 p5 hc (by decide) (by decide) rfl rfl (fun j => by
    obtain ⟨z, ez, bz⟩ := okc_b hbyt.1 hbyt.2.1 hbyt.2.2 (ok_at (cq := k0 * 1000) (j := j) ok hk0 (by omega) (cd_a h00))
    rw [ez]
    exact fit_b bz) hframes hlocals hdg kk
end CP
