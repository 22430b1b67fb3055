-- the pool grows
def EXx (K ln K1 ln1 : Nat → Nat) : Prop := ∀ a, K a ≠ 0 → K1 a = K a ∧ ln1 a = ln a
def FrX (ws : List Nat) (K : Nat → Nat) (h h1 : Nat → Nat → Value) : Prop := ∀ a j, K a ≠ 0 → ws.contains (cd (K a) j) = false → h1 a j = h a j
section EXS
variable {K ln K1 ln1 K2 ln2 : Nat → Nat} {h h1 h2 : Nat → Nat → Value} {a k j cq : Nat} {ws ws1 : List Nat}
theorem EXx.rf : EXx K ln K ln := fun _ _ => ⟨rfl, rfl⟩
theorem EXx.tr (e1 : EXx K ln K1 ln1) (e2 : EXx K1 ln1 K2 ln2) : EXx K ln K2 ln2 := fun a ha => by
  have x1 := e1 a ha
  have x2 := e2 a (by rw [x1.1]; exact ha)
  exact ⟨x2.1.trans x1.1, x2.2.trans x1.2⟩
theorem EXx.kd (e : EXx K ln K1 ln1) (hk : K a = k) (h0 : k ≠ 0) : K1 a = k := ((e a (by rw [hk]; exact h0)).1).trans hk
theorem EXx.le (e : EXx K ln K1 ln1) (hk : K a = k) (h0 : k ≠ 0) {n : Nat} (hl : ln a = n) : ln1 a = n := ((e a (by rw [hk]; exact h0)).2).trans hl
theorem FrX.rf : FrX ws K h h := fun _ _ _ _ => rfl
theorem FrX.of (F : Fr ws K h h1) : FrX ws K h h1 := fun a j _ hc => F a j hc
theorem FrX.tr (F : FrX ws K h h1) (e : EXx K ln K1 ln1) (F1 : FrX ws1 K1 h1 h2) (hs : ws1.all (fun c => ws.contains c) = true) : FrX ws K h h2 := fun a j ha hc => by
  have x := e a ha
  rw [← F a j ha hc]
  refine F1 a j (by rw [x.1]; exact ha) ?_
  rw [x.1]
  cases hq : ws1.contains (cd (K a) j) with
  | false => rfl
  | true =>
    have := List.all_eq_true.mp hs _ (List.contains_iff_mem.mp hq)
    rw [hc] at this
    cases this
theorem FrX.wd (F : FrX ws1 K h h1) (hs : ws1.all (fun c => ws.contains c) = true) : FrX ws K h h1 := FrX.tr (ln := fun _ => 0) (ln1 := fun _ => 0) FrX.rf EXx.rf F hs
theorem FrX.at (F : FrX ws K h h1) (hk : K a = k) (h0 : k ≠ 0) (hc : cd k j = cq) (hm : ws.contains cq = false) : h1 a j = h a j := F a j (by rw [hk]; exact h0) (by rw [hk, hc]; exact hm)
theorem lookup_nz : ∀ (l : List (Nat × Nat)), l.all (fun p => p.2 != 0) = true → ∀ c k, l.lookup c = some k → k ≠ 0
  | [], _, c, k, h => by simp at h
  | (x, y) :: l, ha, c, k, h => by
    rw [List.all_cons, Bool.and_eq_true] at ha
    rw [List.lookup_cons] at h
    cases q : c == x with
    | true =>
      rw [q] at h
      cases h
      have := ha.1
      simpa using this
    | false =>
      rw [q] at h
      exact lookup_nz l ha.2 c k h
theorem okc_mono {c : Nat} {v : Value} (ex : ∀ b, K b ≠ 0 → K1 b = K b) (ho : okc K c v) : okc K1 c v := by
  unfold okc at ho ⊢
  by_cases q : tabL.contains c = true
  · rw [if_pos q] at ho ⊢
    exact ho
  · rw [if_neg q] at ho ⊢
    cases hq : tabR.lookup c with
    | none =>
      rw [hq] at ho
      exact ho
    | some k =>
      rw [hq] at ho
      obtain ⟨b, e, hb⟩ := ho
      have nz := lookup_nz tabR (by decide) c k hq
      exact ⟨b, e, (ex b (by rw [hb]; exact nz)).trans hb⟩
end EXS
def upNx (f : Nat → Nat) (q v : Nat) : Nat → Nat := fun a => if a = q then v else f a
def rowN (h : Nat → Nat → Value) (q : Nat) (v : Value) : Nat → Nat → Value := fun a j => if a = q then v else h a j
theorem upNx_s {f : Nat → Nat} {q v : Nat} : upNx f q v q = v := by simp [upNx]
theorem upNx_n {f : Nat → Nat} {q v a : Nat} (h : a ≠ q) : upNx f q v a = f a := by simp [upNx, h]
theorem rowN_n {h : Nat → Nat → Value} {q a : Nat} {v : Value} (ha : a ≠ q) : rowN h q v a = h a := by
  funext j
  simp [rowN, ha]
theorem rowN_s {h : Nat → Nat → Value} {q j : Nat} {v : Value} : rowN h q v q j = v := by simp [rowN]
section PUSH
variable {G : va_G} {cy : Nat → ClassId} {A : Nat → Prop} {H1 : Heap} {K ln : Nat → Nat} {Ls : List Nat} {h : Nat → Nat → Value} {q k N : Nat} {v : Value} {e : va_E}
theorem pool_new (hD : va_D A (va_pl Ls (cellOf cy K ln h) ++ [(q, e)])) : q ∉ Ls := by
  intro hm
  obtain ⟨i, hi⟩ := va_pl_get (X := []) (f := cellOf cy K ln h) hm
  have hl := (List.getElem?_eq_some_iff.mp hi).1
  have h1 : (va_pl Ls (cellOf cy K ln h) ++ [(q, e)])[i]? = some (q, cellOf cy K ln h q) := by
    rw [List.getElem?_append_left (by simpa using hl)]
    simpa using hi
  have h2 : (va_pl Ls (cellOf cy K ln h) ++ [(q, e)])[(va_pl Ls (cellOf cy K ln h)).length]? = some (q, e) := by simp
  have := hD.1 _ _ _ _ h1 h2 rfl
  have hl2 : i < (va_pl Ls (cellOf cy K ln h)).length := by simpa using hl
  omega
theorem pool_push (hP : va_P G vwCl (va_pl Ls (cellOf cy K ln h) ++ [(q, e)]) H1) (hD : va_D A (va_pl Ls (cellOf cy K ln h) ++ [(q, e)])) (hW : SW K ln Ls) (hlk : lk k ≠ 0 → N = lk k) (he : cellOf cy (upNx K q k) (upNx ln q N) (rowN h q v) q = e) : K q = 0 ∧ EXx K ln (upNx K q k) (upNx ln q N) ∧ PW G cy (upNx K q k) (upNx ln q N) (Ls ++ [q]) A (rowN h q v) H1 ∧ SW (upNx K q k) (upNx ln q N) (Ls ++ [q]) := by
  have hn := pool_new hD
  have hK : K q = 0 := by
    by_cases z : K q = 0
    · exact z
    · exact absurd (hW.1 q z) hn
  have hne : ∀ a, K a ≠ 0 → a ≠ q := fun a ha e => ha (by rw [e]; exact hK)
  have ec : va_pl Ls (cellOf cy K ln h) ++ [(q, e)] = va_pl (Ls ++ [q]) (cellOf cy (upNx K q k) (upNx ln q N) (rowN h q v)) := by
    rw [va_pl_push hn]
    refine va_pl_congr (fun b => ?_)
    by_cases eb : b = q
    · subst eb
      rw [he]; simp [va_up]
    · have : cellOf cy (upNx K q k) (upNx ln q N) (rowN h q v) b = cellOf cy K ln h b := by
        unfold cellOf
        rw [upNx_n eb, upNx_n eb, rowN_n eb]
      rw [this]; simp [va_up, eb]
  rw [ec] at hP hD
  refine ⟨hK, fun a ha => ⟨upNx_n (hne a ha), upNx_n (hne a ha)⟩, ⟨hP, hD⟩, fun a ha => ?_, fun a ha => ?_⟩
  · by_cases ea : a = q
    · rw [ea]; exact List.mem_append_right _ (List.mem_singleton.mpr rfl)
    · rw [upNx_n ea] at ha
      exact List.mem_append_left _ (hW.1 a ha)
  · by_cases ea : a = q
    · rw [ea, upNx_s] at ha ⊢
      rw [upNx_s, hlk ha]
    · rw [upNx_n ea] at ha ⊢
      rw [upNx_n ea]
      exact hW.2 a ha
theorem Ok_push (ok : Ok K h) (hq : K q = 0) (hv : ∀ j, okc (upNx K q k) (cd k j) v) : Ok (upNx K q k) (rowN h q v) := by
  intro a j ha
  by_cases ea : a = q
  · subst ea
    rw [upNx_s, rowN_s]
    exact hv j
  · rw [upNx_n ea] at ha ⊢
    rw [rowN_n ea]
    exact okc_mono (fun b hb => upNx_n (fun e => hb (by rw [e]; exact hq))) (ok a j ha)
end PUSH
section NEWA
variable {p : Program} {l : Launch} {e : Env} {R : Room} {s : State} {m : MethodId} {args : Array Value} {below : List Frame} {meth : Method} {c : Code} {H : Heap} {locs : List Loc} {cells slots : Nat} {Q : State → Prop} {cc : ByteArray} {pc : Nat} {ls : Array Slot} {rest : List Value} {G : va_G} {cy : Nat → ClassId} {A : Nat → Prop} {H0 : Heap} {K ln : Nat → Nat} {Ls : List Nat} {h : Nat → Nat → Value}
/-- what a new row brings -/
def NEWx (K ln : Nat → Nat) (h : Nat → Nat → Value) (q k N : Nat) (K1 ln1 : Nat → Nat) (Ls1 : List Nat) (h1 : Nat → Nat → Value) : Prop := EXx K ln K1 ln1 ∧ SW K1 ln1 Ls1 ∧ Ok K1 h1 ∧ FrX [] K h h1 ∧ K1 q = k ∧ ln1 q = N ∧ ∀ a, K1 a ≠ 0 → a = q ∨ K1 a = K a
theorem p_newI (hx : p.tables.exec = Jvm.exec) (hb : c.code = cc) (harr : (Cond.arrayClass .int).before args s = true) (hK : KK G cy s) (hw : PW G cy K ln Ls A h H) (hS : va_S A H0 H locs) (hA : ∀ q, H0.size ≤ q → A q) (hW : SW K ln Ls) (ok : Ok K h) (k : Nat) (h20 : ¬ k < 20) (ht : aty k = 1) (hlk : lk k = 0) (hL : tabL.contains (k * 1000) = false) (hR : tabR.lookup (k * 1000) = none) (hI : match tabI.lookup (k * 1000) with | some q => q.1 ≤ (0 : Int) ∧ (0 : Int) ≤ q.2 | none => True)
    {n : Int32} {N : Nat} (hn : ¬ n < 0) (hN : n.toNatClampNeg = N) (hN2 : N ≤ 262144) (hcells : cells + 1 ≤ R.cells) (hslots : slots + N ≤ R.slots) (hdg : decode cc pc = .ok (.newarray .int, 2))
    (kk : ∀ (q : Nat) (K1 ln1 : Nat → Nat) (Ls1 : List Nat) (h1 : Nat → Nat → Value) (H1 : Heap), NEWx K ln h q k N K1 ln1 Ls1 h1 → (∀ j, h1 q j = .int 0) → PW G cy K1 ln1 Ls1 A h1 H1 → va_S A H0 H1 locs → W p l e R s m args below meth c H1 locs (cells + 1) (slots + N) Q (F0 m (pc + 2) ls (.ref q :: rest))) : W p l e R s m args below meth c H locs cells slots Q (F0 m pc ls (.int n :: rest)) := by
  refine kn_a (atype := .int) (ty := .int) (N' := N) (a0 := (N, .inl (fun _ => 0))) hx hb harr rfl hK hw.1 hw.2 hS hA 1 rfl (fun _ => rfl) hn hN (by show N * 4 ≤ _; omega) hcells hslots hdg (fun q H1 hP hD hS => ?_)
  have hc : cellOf cy (upNx K q k) (upNx ln q N) (rowN h q (.int 0)) q = .inl (cy 1, N, .inl (fun _ => 0)) := by
    rw [cell_i (k := k) upNx_s h20 ht (by decide) (by decide), upNx_s]
    have ef : (fun i => vI (rowN h q (.int 0) q i)) = fun _ => (0 : Int32) := funext fun i => by rw [rowN_s]; rfl
    rw [ef]
  obtain ⟨a1, a2, a3, a4⟩ := pool_push (k := k) (N := N) (v := .int 0) hP hD hW (fun z => absurd hlk z) hc
  have hv : ∀ j, okc (upNx K q k) (cd k j) (.int 0) := fun j => by
    rw [cd_a h20]
    unfold okc
    rw [if_neg (by rw [hL]; decide), hR]
    refine ⟨0, rfl, ?_⟩
    cases hq : tabI.lookup (k * 1000) with
    | none => trivial
    | some z =>
      rw [hq] at hI
      have h0 : (0 : Int32).toInt = 0 := by decide
      show z.1 ≤ (0 : Int32).toInt ∧ (0 : Int32).toInt ≤ z.2
      rw [h0]
      exact hI
  refine kk q _ _ _ _ H1 ⟨a2, a4, Ok_push ok a1 hv, fun a j ha _ => ?_, upNx_s, upNx_s, fun a ha => ?_⟩ (fun j => rowN_s) a3 hS
  · rw [rowN_n (fun e => ha (by rw [e]; exact a1))]
  · by_cases ea : a = q
    · exact Or.inl ea
    · exact Or.inr (upNx_n ea)
theorem p_newL (hx : p.tables.exec = Jvm.exec) (hb : c.code = cc) (harr : (Cond.arrayClass .long).before args s = true) (hK : KK G cy s) (hw : PW G cy K ln Ls A h H) (hS : va_S A H0 H locs) (hA : ∀ q, H0.size ≤ q → A q) (hW : SW K ln Ls) (ok : Ok K h) (k : Nat) (h20 : ¬ k < 20) (ht : aty k = 2) (hlk : lk k = 0) (hL : tabL.contains (k * 1000) = true)
    {n : Int32} {N : Nat} (hn : ¬ n < 0) (hN : n.toNatClampNeg = N) (hN2 : N ≤ 262144) (hcells : cells + 1 ≤ R.cells) (hslots : slots + N ≤ R.slots) (hdg : decode cc pc = .ok (.newarray .long, 2))
    (kk : ∀ (q : Nat) (K1 ln1 : Nat → Nat) (Ls1 : List Nat) (h1 : Nat → Nat → Value) (H1 : Heap), NEWx K ln h q k N K1 ln1 Ls1 h1 → PW G cy K1 ln1 Ls1 A h1 H1 → va_S A H0 H1 locs → W p l e R s m args below meth c H1 locs (cells + 1) (slots + N) Q (F0 m (pc + 2) ls (.ref q :: rest))) : W p l e R s m args below meth c H locs cells slots Q (F0 m pc ls (.int n :: rest)) := by
  refine kn_a (atype := .long) (ty := .long) (N' := N) (a0 := (N, .inr (.inl (fun _ => 0)))) hx hb harr rfl hK hw.1 hw.2 hS hA 2 rfl (fun _ => rfl) hn hN (by show N * 8 ≤ _; omega) hcells hslots hdg (fun q H1 hP hD hS => ?_)
  have hc : cellOf cy (upNx K q k) (upNx ln q N) (rowN h q (.long 0)) q = .inl (cy 2, N, .inr (.inl (fun _ => 0))) := by
    rw [cell_l (k := k) upNx_s h20 ht, upNx_s]
    have ef : (fun i => vL (rowN h q (.long 0) q i)) = fun _ => (0 : Int64) := funext fun i => by rw [rowN_s]; rfl
    rw [ef]
  obtain ⟨a1, a2, a3, a4⟩ := pool_push (k := k) (N := N) (v := .long 0) hP hD hW (fun z => absurd hlk z) hc
  have hv : ∀ j, okc (upNx K q k) (cd k j) (.long 0) := fun j => by
    rw [cd_a h20]
    exact okc_l' hL
  refine kk q _ _ _ _ H1 ⟨a2, a4, Ok_push ok a1 hv, fun a j ha _ => ?_, upNx_s, upNx_s, fun a ha => ?_⟩ a3 hS
  · rw [rowN_n (fun e => ha (by rw [e]; exact a1))]
  · by_cases ea : a = q
    · exact Or.inl ea
    · exact Or.inr (upNx_n ea)
theorem cpy2_l {h : Nat → Nat → Value} {a0 a1 sp dp n : Nat} : va_cpy (fun i => vL (h a0 i)) (fun i => vL (h a1 i)) sp dp n = fun i => vL (cpy2 h a0 a1 sp dp n a1 i) := by
  funext j
  unfold va_cpy cpy2
  by_cases e : dp ≤ j ∧ j < dp + n
  · rw [if_pos e, if_pos ⟨rfl, e⟩]
  · rw [if_neg e, if_neg (fun q => e q.2)]
theorem p_copyL {a0 a1 : Nat} (hx : p.tables.exec = Jvm.exec) (hb : c.code = cc) (hml : c.maxLocals = ls.size) {own : String} {index : Nat} (hown : s.vm.findClass own = some m.cls) (hlink : (Cond.methodLink own index arraycopyName).before args s = true) (hnat : (Cond.native arraycopyName).before args s = true) (hstat : (Cond.static arraycopyName).before args s = true) (hini : (Cond.initialized "java/lang/System").before args s = true)
    (hK : KK G cy s) (hw : PW G cy K ln Ls A h H) (hS : va_S A H0 H locs) (hW : SW K ln Ls) {k0 k1 n0 n1 cq : Nat} (ok : Ok K h) (hk0 : K a0 = k0) (hk1 : K a1 = k1) (h00 : ¬ k0 < 20) (h01 : ¬ k1 < 20) (ht0 : aty k0 = 2) (ht1 : aty k1 = 2) (hl0 : ln a0 = n0) (hl1 : ln a1 = n1) (ho : ∀ v, okc K (k0 * 1000) v → okc K cq v)
    {sp dp n : Int32} {x0 x1 y0 y1 z0 z1 : Int} (b1 : x0 ≤ sp.toInt ∧ sp.toInt ≤ x1) (b2 : y0 ≤ dp.toInt ∧ dp.toInt ≤ y1) (b3 : z0 ≤ n.toInt ∧ n.toInt ≤ z1) (p1 : 0 ≤ x0) (p2 : 0 ≤ y0) (p3 : 0 ≤ z0) (p4 : x1 + z1 ≤ n0) (p5 : y1 + z1 ≤ n1)
    (hframes : 1 ≤ R.frames) (hlocals : (rest.map fun v => v.category).sum + (nativeFrameWords "java/lang/System" "arraycopy" 5 + 11) ≤ R.locals) (hdg : decode cc pc = .ok (.invokestatic index, 3)) (hc : k1 * 1000 = cq)
    (kk : ∀ h1, Ok K h1 → Fr [cq] K h h1 → ∀ (H1 : Heap) (locs1 : List Loc), PW G cy K ln Ls A h1 H1 → va_S A H0 H1 locs1 → W p l e R s m args below meth c H1 locs1 cells slots Q (F0 m (pc + 3) ls rest)) : W p l e R s m args below meth c H locs cells slots Q (F0 m pc ls (.int n :: .int dp :: .ref a1 :: .int sp :: .ref a0 :: rest)) := by
  obtain ⟨q0, hq0⟩ := pool_at hw hW (a := a0) (by rw [hk0]; omega)
  obtain ⟨q1, hq1⟩ := pool_at hw hW (a := a1) (by rw [hk1]; omega)
  have hq1' := hq1
  rw [cell_l hk0 h00 ht0, hl0] at hq0
  rw [cell_l hk1 h01 ht1, hl1] at hq1
  obtain ⟨N1, e1, g1, g2, g3⟩ := b_of b1 p1
  obtain ⟨N2, e2, g4, g5, g6⟩ := b_of b2 p2
  obtain ⟨N3, e3, g7, g8, g9⟩ := b_of b3 p3
  subst e1; subst e2; subst e3
  refine va_copyl (ty := .long) hx hb hml hown hlink hnat hstat hini hK.1 hw.1 hw.2 hS q0 q1 2 2 hq0 hq1 rfl rfl rfl (nI_pos g3) (nI_pos g6) (nI_pos g9) ?_ ?_ (fun i _ => rfl) hframes hlocals hdg (fun H1 l1 h1 h2' h3 => ?_)
  · rw [nI_clamp g3, nI_clamp g9]; omega
  · rw [nI_clamp g6, nI_clamp g9]; omega
  · have e := pl_set (f' := cellOf cy K ln (cpy2 h a0 a1 (nI N1).toNatClampNeg (nI N2).toNatClampNeg (nI N3).toNatClampNeg)) (e := .inl (cy 2, n1, .inr (.inl (va_cpy (fun i => vL (h a0 i)) (fun i => vL (h a1 i)) (nI N1).toNatClampNeg (nI N2).toNatClampNeg (nI N3).toNatClampNeg)))) hw.2 (hW.1 a1 (by rw [hk1]; omega)) hq1' (by rw [cell_l hk1 h01 ht1, hl1, cpy2_l]) (fun b hb => cell_row (cpy2_row hb))
    rw [e] at h1 h2'
    exact kk _ (cpy2_ok ok hk0 hk1 h00 h01 hc ho) (cpy2_fr hk1 h01 hc) H1 l1 ⟨h1, h2'⟩ h3
end NEWA
-- worlds that have grown
abbrev GU : Type := (Nat → Nat) × (Nat → Nat) × List Nat × (Nat → Nat → Value)
def GWx (cy : Nat → ClassId) (u : GU) : va_W := va_pl u.2.2.1 (cellOf cy u.1 u.2.1 u.2.2.2)
def GPx (ws : List Nat) (K ln : Nat → Nat) (h : Nat → Nat → Value) (n : Nat) (u : GU) (n1 : Nat) : Prop := EXx K ln u.1 u.2.1 ∧ SW u.1 u.2.1 u.2.2.1 ∧ Ok u.1 u.2.2.2 ∧ FrX ws K h u.2.2.2 ∧ NSx u.1 u.2.1 u.2.2.2 n1 ∧ n ≤ n1
