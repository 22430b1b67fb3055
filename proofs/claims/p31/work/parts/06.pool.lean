-- the pool: every object and array of class and reference, by its kind; h: what each place holds
def up2 (h : Nat → Nat → Value) (a k : Nat) (v : Value) : Nat → Nat → Value := fun b j => if b = a ∧ j = k then v else h b j
theorem up2_s {h : Nat → Nat → Value} {a k : Nat} {v : Value} : up2 h a k v a k = v := by simp [up2]
theorem up2_n {h : Nat → Nat → Value} {a k b j : Nat} {v : Value} (hne : b ≠ a ∨ j ≠ k) : up2 h a k v b j = h b j := by
  unfold up2
  rw [if_neg]
  intro e
  rcases hne with x | x
  · exact x e.1
  · exact x e.2
theorem up2_row {h : Nat → Nat → Value} {a k b : Nat} {v : Value} (hne : b ≠ a) : up2 h a k v b = h b := funext fun _ => up2_n (Or.inl hne)
def vI : Value → Int32
  | .int x => x
  | _ => 0
def vL : Value → Int64
  | .long x => x
  | _ => 0
def vR : Value → Option Nat
  | .ref a => some a
  | _ => none
def nf (k : Nat) : Nat := nfs.getD k 0
def aty (k : Nat) : Nat := atyl.getD (k - 20) 0
def lk (k : Nat) : Nat := lkl.getD (k - 20) 0
def cellOf (cy : Nat → ClassId) (K ln : Nat → Nat) (h : Nat → Nat → Value) (a : Nat) : va_E :=
  if K a < 20 then .inr (K a - 1, (List.range (nf (K a))).map (h a))
  else if aty (K a) = 2 then .inl (cy 2, ln a, .inr (.inl (fun i => vL (h a i))))
  else if aty (K a) < 4 then .inl (cy (aty (K a)), ln a, .inl (fun i => vI (h a i)))
  else .inl (cy (aty (K a)), ln a, .inr (.inr (.inr (.inr (fun i => vR (h a i))))))
section CELL
variable {cy : Nat → ClassId} {K ln : Nat → Nat} {h h1 : Nat → Nat → Value} {a k t : Nat}
theorem cell_o (hk : K a = k) (h20 : k < 20) : cellOf cy K ln h a = .inr (k - 1, (List.range (nf k)).map (h a)) := by
  unfold cellOf
  rw [hk, if_pos h20]
theorem cell_l (hk : K a = k) (h20 : ¬ k < 20) (ht : aty k = 2) : cellOf cy K ln h a = .inl (cy 2, ln a, .inr (.inl (fun i => vL (h a i)))) := by
  unfold cellOf
  rw [hk, if_neg h20, if_pos ht]
theorem cell_i (hk : K a = k) (h20 : ¬ k < 20) (ht : aty k = t) (h2 : ¬ t = 2) (h4 : t < 4) : cellOf cy K ln h a = .inl (cy t, ln a, .inl (fun i => vI (h a i))) := by
  unfold cellOf
  rw [hk, if_neg h20, ht, if_neg h2, if_pos h4]
theorem cell_r (hk : K a = k) (h20 : ¬ k < 20) (ht : aty k = t) (h2 : ¬ t = 2) (h4 : ¬ t < 4) : cellOf cy K ln h a = .inl (cy t, ln a, .inr (.inr (.inr (.inr (fun i => vR (h a i)))))) := by
  unfold cellOf
  rw [hk, if_neg h20, ht, if_neg h2, if_neg h4]
theorem cell_row (e : h1 a = h a) : cellOf cy K ln h1 a = cellOf cy K ln h a := by
  unfold cellOf
  rw [e]
end CELL
theorem pl_set {A : Nat → Prop} {L : List Nat} {f f' : Nat → va_E} {a i : Nat} {e : va_E} (hD : va_D A (va_pl L f)) (hm : a ∈ L) (hk : (va_pl L f)[i]? = some (a, f a)) (he : f' a = e) (hne : ∀ b, b ≠ a → f' b = f b) : (va_pl L f).set i (a, e) = va_pl L f' := by
  have h := va_pl_set (X := []) (e := e) hD hm hk
  refine h.trans (va_pl_congr (fun b => ?_))
  by_cases eb : b = a
  · subst eb; rw [he]; simp [va_up]
  · rw [hne b eb]; simp [va_up, eb]
theorem range_set {n k : Nat} {f : Nat → Value} {v : Value} (hk : k < n) : ((List.range n).map f).set k v = (List.range n).map (fun j => if j = k then v else f j) := by
  apply List.ext_getElem?
  intro i
  rw [List.getElem?_set]
  simp only [List.length_map, List.length_range, List.getElem?_map]
  by_cases e : k = i
  · subst e
    simp [hk]
  · rw [if_neg e]
    by_cases hi : i < n
    · simp [List.getElem?_range hi, Ne.symm e]
    · simp [hi]
theorem up2_at {h : Nat → Nat → Value} {a k : Nat} {v : Value} : up2 h a k v a = fun j => if j = k then v else h a j := by
  funext j
  by_cases e : j = k <;> simp [up2, e]
def PW (G : va_G) (cy : Nat → ClassId) (K ln : Nat → Nat) (Ls : List Nat) (A : Nat → Prop) (h : Nat → Nat → Value) (H : Heap) : Prop := va_P G vwCl (va_pl Ls (cellOf cy K ln h)) H ∧ va_D A (va_pl Ls (cellOf cy K ln h))
def SW (K ln : Nat → Nat) (Ls : List Nat) : Prop := (∀ a, K a ≠ 0 → a ∈ Ls) ∧ (∀ a, lk (K a) ≠ 0 → ln a = lk (K a))
theorem SW.len {K ln : Nat → Nat} {Ls : List Nat} (hW : SW K ln Ls) {a k n : Nat} (hk : K a = k) (hn : lk k = n) (h0 : n ≠ 0) : ln a = n := by
  have := hW.2 a (by rw [hk, hn]; exact h0)
  rw [hk, hn] at this
  exact this
theorem pool_at {G : va_G} {cy : Nat → ClassId} {K ln : Nat → Nat} {Ls : List Nat} {A : Nat → Prop} {h : Nat → Nat → Value} {H : Heap} (_ : PW G cy K ln Ls A h H) (hW : SW K ln Ls) {a : Nat} (ha : K a ≠ 0) : ∃ q : Nat, (va_pl Ls (cellOf cy K ln h))[q]? = some (a, cellOf cy K ln h a) := va_pl_get (X := []) (f := cellOf cy K ln h) (hW.1 a ha)
-- codes of places; what may stand there; what has been written
def cd (k j : Nat) : Nat := if k < 20 then k * 1000 + j else k * 1000
theorem cd_o {k j : Nat} (h : k < 20) : cd k j = k * 1000 + j := if_pos h
theorem cd_a {k j : Nat} (h : ¬ k < 20) : cd k j = k * 1000 := if_neg h
def okc (K : Nat → Nat) (c : Nat) (v : Value) : Prop :=
  if tabL.contains c then ∃ w : Int64, v = .long w
  else match tabR.lookup c with
    | some k => ∃ b : Nat, v = .ref b ∧ K b = k
    | none => ∃ z : Int32, v = .int z ∧ match tabI.lookup c with
      | some q => q.1 ≤ z.toInt ∧ z.toInt ≤ q.2
      | none => True
def Ok (K : Nat → Nat) (h : Nat → Nat → Value) : Prop := ∀ a j, K a ≠ 0 → okc K (cd (K a) j) (h a j)
section OK
variable {K : Nat → Nat} {h h1 h2 : Nat → Nat → Value} {a k j cq : Nat}
theorem ok_at (ok : Ok K h) (hk : K a = k) (h0 : k ≠ 0) (hc : cd k j = cq) : okc K cq (h a j) := by
  have := ok a j (by rw [hk]; exact h0)
  rw [hk, hc] at this
  exact this
theorem okc_l {v : Value} (h1 : tabL.contains cq = true) (h : okc K cq v) : ∃ w : Int64, v = .long w := by
  unfold okc at h
  rw [if_pos h1] at h
  exact h
theorem okc_r {v : Value} {k : Nat} (h1 : tabL.contains cq = false) (h2 : tabR.lookup cq = some k) (h : okc K cq v) : ∃ b : Nat, v = .ref b ∧ K b = k := by
  unfold okc at h
  rw [if_neg (by rw [h1]; decide), h2] at h
  exact h
theorem okc_b {v : Value} {lo hi : Int} (h1 : tabL.contains cq = false) (h2 : tabR.lookup cq = none) (h3 : tabI.lookup cq = some (lo, hi)) (h : okc K cq v) : ∃ z : Int32, v = .int z ∧ (lo ≤ z.toInt ∧ z.toInt ≤ hi) := by
  unfold okc at h
  rw [if_neg (by rw [h1]; decide), h2, h3] at h
  exact h
theorem okc_i {v : Value} (h1 : tabL.contains cq = false) (h2 : tabR.lookup cq = none) (h : okc K cq v) : ∃ z : Int32, v = .int z := by
  unfold okc at h
  rw [if_neg (by rw [h1]; decide), h2] at h
  obtain ⟨z, e, -⟩ := h
  exact ⟨z, e⟩
theorem okc_l' {w : Int64} (h1 : tabL.contains cq = true) : okc K cq (.long w) := by
  unfold okc
  rw [if_pos h1]
  exact ⟨w, rfl⟩
theorem okc_r' {b k : Nat} (h1 : tabL.contains cq = false) (h2 : tabR.lookup cq = some k) (h : K b = k) : okc K cq (.ref b) := by
  unfold okc
  rw [if_neg (by rw [h1]; decide), h2]
  exact ⟨b, rfl, h⟩
theorem okc_b' {z : Int32} {lo hi : Int} (h1 : tabL.contains cq = false) (h2 : tabR.lookup cq = none) (h3 : tabI.lookup cq = some (lo, hi)) (h : lo ≤ z.toInt ∧ z.toInt ≤ hi) : okc K cq (.int z) := by
  unfold okc
  rw [if_neg (by rw [h1]; decide), h2, h3]
  exact ⟨z, rfl, h⟩
theorem okc_i' {z : Int32} (h1 : tabL.contains cq = false) (h2 : tabR.lookup cq = none) (h3 : tabI.lookup cq = none) : okc K cq (.int z) := by
  unfold okc
  rw [if_neg (by rw [h1]; decide), h2, h3]
  exact ⟨z, rfl, trivial⟩
theorem Ok.put {v : Value} (ok : Ok K h) (eh : h1 = up2 h a j v) (hk : K a = k) (hc : cd k j = cq) (hv : okc K cq v) : Ok K h1 := by
  intro b i hb
  subst eh
  by_cases e : b = a ∧ i = j
  · obtain ⟨rfl, rfl⟩ := e
    rw [up2_s, hk, hc]
    exact hv
  · have : up2 h a j v b i = h b i := by unfold up2; rw [if_neg e]
    rw [this]
    exact ok b i hb
def Fr (ws : List Nat) (K : Nat → Nat) (h h1 : Nat → Nat → Value) : Prop := ∀ a j, ws.contains (cd (K a) j) = false → h1 a j = h a j
theorem Fr.rf {ws : List Nat} : Fr ws K h h := fun _ _ _ => rfl
theorem Fr.put {ws : List Nat} {v : Value} {h0 : Nat → Nat → Value} (F : Fr ws K h0 h) (eh : h1 = up2 h a j v) (hk : K a = k) (hc : cd k j = cq) (hm : ws.contains cq = true) : Fr ws K h0 h1 := by
  intro b i hb
  subst eh
  rw [← F b i hb]
  refine up2_n ?_
  by_cases e : b = a
  · refine Or.inr (fun e2 => ?_)
    subst e; subst e2
    rw [hk, hc, hm] at hb
    cases hb
  · exact Or.inl e
theorem Fr.tr {ws ws1 : List Nat} {h0 : Nat → Nat → Value} (F : Fr ws K h0 h) (F1 : Fr ws1 K h h1) (hs : ws1.all (fun c => ws.contains c) = true) : Fr ws K h0 h1 := by
  intro b i hb
  rw [← F b i hb]
  refine F1 b i ?_
  cases hq : ws1.contains (cd (K b) i) with
  | false => rfl
  | true =>
    have := List.all_eq_true.mp hs _ (List.contains_iff_mem.mp hq)
    rw [hb] at this
    cases this
theorem Fr.nil (F : Fr [] K h h1) : h1 = h := funext fun a => funext fun j => F a j rfl
theorem Fr.at {ws : List Nat} (F : Fr ws K h h1) (hk : K a = k) (hc : cd k j = cq) (hm : ws.contains cq = false) : h1 a j = h a j := F a j (by rw [hk, hc]; exact hm)
theorem up_at {v : Value} {b i : Nat} (eh : h1 = up2 h a j v) (hne : b ≠ a ∨ i ≠ j) : h1 b i = h b i := by rw [eh]; exact up2_n hne
theorem hp_self {v : Value} (eh : h1 = up2 h a j v) : h1 a j = v := by rw [eh]; exact up2_s
theorem kd_ne {b i j : Nat} (h1 : K b = i) (h2 : K a = j) (hij : i ≠ j) : b ≠ a := fun e => hij (by rw [← h1, ← h2, e])
end OK
-- what lies outside, with the table of states
abbrev Ew : Type := Ev × Nat × (Nat → Int64)
def EW (ev : Ew) (A : Nat → Prop) (U : State) (H : Heap) : Prop := EV ev.1 A U H ∧ va_Z "LieClock" "WHERE_TRUE" "[J" (.ref ev.2.1) A U H ∧ va_T .long ev.2.1 6 (fun j => .long (ev.2.2 j)) A U H
theorem EW.warm {ev : Ew} {A : Nat → Prop} {s U : State} {H : Heap} (hW : s.WarmedH U.vm) (h : EW ev A s H) : EW ev A U H := ⟨h.1.warm hW, h.2.1.moved hW.alike, h.2.2.moved hW.alike⟩
theorem EW.same {ev : Ew} {A : Nat → Prop} {s U : State} {H : Heap} (hv : s.vm = U.vm) (h : EW ev A s H) : EW ev A U H := by
  have ha : s.vm.Alike U.vm := by rw [hv]; exact Vm.Alike.refl _
  exact ⟨h.1.same hv, h.2.1.moved ha, h.2.2.moved ha⟩
theorem EW.kept {ev : Ew} {A : Nat → Prop} {U : State} {H H1 : Heap} (h : EW ev A U H) (hq : ∀ a : Nat, a < H.size → ¬ A a → H1[a]? = H[a]?) : EW ev A U H1 := ⟨h.1.kept hq, h.2.1.kept hq, h.2.2.kept hq⟩
theorem EW.narrow {ev : Ew} {A B : Nat → Prop} {U : State} {H : Heap} (h : EW ev A U H) (hAB : ∀ q, B q → A q) : EW ev B U H := ⟨h.1.narrow hAB, h.2.1.narrow hAB, h.2.2.narrow hAB⟩
def PB2 (av : List Value) (sz : Nat) (G : va_G) (cy : Nat → ClassId) (ev : Ew) (ws : va_W) : Array Value → State → Prop := va_Pc av (fun U => U.heap.size = sz ∧ va_P G vwCl ws U.heap ∧ KK G cy U ∧ va_D (fun _ => True) ws ∧ EW ev (va_A ws sz) U U.heap)
theorem PB2.blind {av : List Value} {sz : Nat} {G : va_G} {cy : Nat → ClassId} {ev : Ew} {ws : va_W} : FrameBlind (PB2 av sz G cy ev ws) := fun _ U _ _ h => ⟨h.1, h.2.1, h.2.2.1, KK.same (s := U) rfl h.2.2.2.1, h.2.2.2.2.1, EW.same (s := U) rfl h.2.2.2.2.2⟩
theorem free_all {A : Nat → Prop} {ws : va_W} {H0 H : Heap} {locs : List Loc} (hD : va_D A ws) (hS : va_S A H0 H locs) (hA : ∀ q, H0.size ≤ q → A q) : ∀ q, va_A ws H.size q → A q := by
  intro q h
  rcases h with ⟨k, e, h⟩ | h
  · exact hD.2 k (q, e) h
  · exact hA q (Nat.le_trans hS.1 h)
theorem PB2.preS {s : State} {H : Heap} {locs : List Loc} {G : va_G} {cy : Nat → ClassId} {ev : Ew} {ws : va_W} {A : Nat → Prop} {av : List Value} (hK : KK G cy s) (hE : EW ev A s s.heap) (hS : va_S A s.heap H locs) (hA : ∀ q, s.heap.size ≤ q → A q) (hw : va_P G vwCl ws H ∧ va_D A ws) : PreS s H (PB2 av H.size G cy ev ws) av :=
  ⟨PB2.blind, fun U hU hW => ⟨rfl, by rw [hU], by rw [hU]; exact hw.1, KK.warm hW hK, hw.2.weaken (fun _ _ _ _ => trivial), by rw [hU]; exact ((hE.kept hS.2.1).narrow (free_all hw.2 hS hA)).warm hW⟩⟩
theorem PB2.preV {s : State} {H : Heap} {locs : List Loc} {G : va_G} {cy : Nat → ClassId} {ev : Ew} {ws : va_W} {A : Nat → Prop} {b q0 ci : Nat} {fs As : List Value} {r : vw_C} (hK : KK G cy s) (hE : EW ev A s s.heap) (hS : va_S A s.heap H locs) (hA : ∀ q, s.heap.size ≤ q → A q) (hw : va_P G vwCl ws H ∧ va_D A ws) (hc : vwCl[ci]? = some r) (he : ws[q0]? = some (b, .inr (ci, fs))) : PreV s H r.1 b (PB2 (.ref b :: As) H.size G cy ev ws) As :=
  ⟨PB2.blind, va_recv hK.1 hw.1 hc he, (PB2.preS hK hE hS hA hw).2⟩
theorem pool_preV {s : State} {H : Heap} {locs : List Loc} {G : va_G} {cy : Nat → ClassId} {ev : Ew} {K ln : Nat → Nat} {Ls : List Nat} {h : Nat → Nat → Value} {A : Nat → Prop} {b ci : Nat} {As : List Value} {r : vw_C} (hK : KK G cy s) (hE : EW ev A s s.heap) (hS : va_S A s.heap H locs) (hA : ∀ q, s.heap.size ≤ q → A q) (hw : PW G cy K ln Ls A h H) (hW : SW K ln Ls) (hk : K b = ci + 1) (h20 : ci + 1 < 20) (hc : vwCl[ci]? = some r) : PreV s H r.1 b (PB2 (.ref b :: As) H.size G cy ev (va_pl Ls (cellOf cy K ln h))) As := by
  obtain ⟨q, hq⟩ := pool_at hw hW (a := b) (by rw [hk]; omega)
  rw [cell_o hk h20] at hq
  exact PB2.preV hK hE hS hA hw hc hq
theorem pool_preK {s : State} {H : Heap} {locs : List Loc} {G : va_G} {cy : Nat → ClassId} {ev : Ew} {ws : va_W} {A : Nat → Prop} {i : Nat} {As : List Value} (hK : KK G cy s) (hE : EW ev A s s.heap) (hS : va_S A s.heap H locs) (hA : ∀ q, s.heap.size ≤ q → A q) (hw : va_P G vwCl ws H ∧ va_D A ws) (hi : i < 2) : PreV s H "java/lang/String" (ev.1.1 i) (PB2 (.ref (ev.1.1 i) :: As) H.size G cy ev ws) As :=
  ⟨PB2.blind, vk_recv hE.1.1 hi hS, (PB2.preS hK hE hS hA hw).2⟩
theorem ofWF {l : Launch} {y : MethodName} {ws ws' : List Cond} {rm : Room} {Pc : Array Value → State → Prop} {Qc : Array Value → State → Outcome → State → Prop} {mc ms : Nat} {free : Addr → Prop} {cc : ByteArray} {maxL : Nat} {ret : Option FieldType}
    (hy : plainFor y = true) (hw : ws = Cond.code y cc maxL ret :: ws')
    (body : ∀ p e s m args below meth c s₁, BodyLoose p l y (headSpec ws rm) cc maxL ret e s m args below meth c s₁ → c.maxLocals = maxL → Pc args s →
      W p l e (headSpec ws rm).room s m args below meth c s.heap [] 0 0 (MQ below Qc args s mc ms free) (entryFrame m args maxL)) : Met l y ws rm Pc Qc mc ms free := by
  refine MetFree.of_bodySF (code := cc) (maxLocals := maxL) (ret := ret) hy ?_ ?_
  · intro args s m h hn
    obtain ⟨meth, c, h1, h2, h3, h4, h5, h6, -, -⟩ := Cond.code_spec hn (atoms_spec (ws := ws) h _ (by rw [hw]; exact List.mem_cons_self))
    exact ⟨meth, c, h1, h2, h3, h4, h5, h6⟩
  · intro p e s m args below meth c s₁ B hml hP _
    have hh0 : s₁.heap = s.heap := by rw [B.state]; rfl
    obtain ⟨t, a1, o, b1, b2, b3⟩ := body p e s m args below meth c s₁ B hml hP s₁ hh0 (Stand.of_body B)
    exact ⟨t, o, a1, b1, b2, ⟨b3.1, b3.2⟩⟩
theorem met_of2 {l : Launch} {y : MethodName} {cc : ByteArray} {L : Nat} {ret : Option FieldType} {rm : Room} {av : List Value} {sz : Nat} {G : va_G} {cy : Nat → ClassId} {ev : Ew} {W0 : va_W} {Qc : (Nat → Prop) → Array Value → State → Outcome → State → Prop} (hy : plainFor y = true) (hL : (lg_sl av).length ≤ L)
    (body : ∀ (p : Program) (e : Env) (s : State) (m : MethodId) (below : List Frame) (meth : Method) (c : Code), s.heap.size = sz → p.tables.exec = Jvm.exec → c.code = cc → meth.sig.returnType = ret → c.maxLocals = L → s.vm.findClass y.cls = some m.cls → (∀ w ∈ TB, w.before av.toArray s = true) → meth.locks = false → meth.name = y.name → KK G cy s → ∀ (A : Nat → Prop), (∀ q : Nat, s.heap.size ≤ q → A q) → EW ev A s s.heap → va_P G vwCl W0 s.heap ∧ va_D A W0 → va_S A s.heap s.heap [] → ∀ ls : Array Slot, lv_has ls L (lv_args 0 av) →
      W p l e rm s m av.toArray below meth c s.heap [] 0 0 (MQ below (Qc A) av.toArray s rm.cells rm.slots A) (F0 m 0 ls [])) : Met l y (WS y cc L ret) rm (PB2 av sz G cy ev W0) (Qc (va_A W0 sz)) rm.cells rm.slots (va_A W0 sz) := by
  refine ofWF (cc := cc) (maxL := L) (ret := ret) hy rfl ?_
  intro p e s m args below meth c s₁ B hml hv
  obtain ⟨rfl, hsz, hP, hK, hD0, hE⟩ := hv
  subst hsz
  have hts := atoms_spec (ws := WS y cc L ret) B.pre
  have hD := hD0.self (sz := s.heap.size)
  have hl := lv_entry av (n := L) hL
  rw [lg_entry_eq]
  generalize (lg_sl av ++ List.replicate (L - (lg_sl av).length) Slot.unset).toArray = ls at hl ⊢
  exact body p e s m below meth c rfl B.exec B.bytes B.returns hml (findClass_of_methodNamed B.named) (fun w h => hts w (List.mem_cons_of_mem _ h)) B.notSynchronized (name_of_methodNamed B.named B.method).1 hK _ (fun q h => Or.inr h) hE ⟨hP, hD⟩ va_S.rf ls hl
