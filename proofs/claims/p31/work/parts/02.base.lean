-- one list of words for every method, the classes' and arrays' tables, worlds in and out of a contract, calls and ends
def TB : List Cond := lw_tbl.filter goodWord
theorem TB_of {w : Cond} (i : Nat) (h : lw_tbl[i]? = some w) (g : goodWord w = true) : w ∈ TB := List.mem_filter.mpr ⟨List.mem_of_getElem? h, g⟩
abbrev WS (y : MethodName) (cc : ByteArray) (L : Nat) (r : Option FieldType) : List Cond := Cond.code y cc L r :: TB
theorem good_TB {z : MethodName} {cz : ByteArray} {L : Nat} {r : Option FieldType} (h : Cond.code z cz L r ∈ TB) : GoodIn TB (WS z cz L r) := by
  intro w hw
  have hm : w ∈ TB := by
    rcases List.mem_cons.mp hw with e | e
    · rw [e]; exact h
    · exact e
  exact ⟨hm, good_of_word (List.mem_filter.mp hm).2⟩
theorem good_V {own C : String} {idx : Nat} {z : MethodName} {cz : ByteArray} {L : Nat} {r : Option FieldType} (h : Cond.code z cz L r ∈ TB) (h1 : Cond.methodLink own idx z ∈ TB) (h2 : Cond.instanceMethod z ∈ TB) (h3 : Cond.selects C z z ∈ TB) (h4 : Cond.initialized C ∈ TB) : GoodIn TB (wsV own idx C z (WS z cz L r)) := by
  intro w hw
  rcases List.mem_append.mp hw with e | e
  · have hm : w ∈ TB := by
      rcases List.mem_cons.mp e with e | e
      · rw [e]; exact h1
      rcases List.mem_cons.mp e with e | e
      · rw [e]; exact h2
      rcases List.mem_cons.mp e with e | e
      · rw [e]; exact h3
      rcases List.mem_cons.mp e with e | e
      · rw [e]; exact h4
      · cases e
    exact ⟨hm, good_of_word (List.mem_filter.mp hm).2⟩
  · exact good_TB h w e
theorem good_S {own : String} {idx : Nat} {z : MethodName} {cz : ByteArray} {L : Nat} {r : Option FieldType} (h : Cond.code z cz L r ∈ TB) (h1 : Cond.methodLink own idx z ∈ TB) (h2 : Cond.static z ∈ TB) (h4 : Cond.initialized z.cls ∈ TB) : GoodIn TB (va_wsS own idx z (WS z cz L r)) := by
  intro w hw
  rcases List.mem_append.mp hw with e | e
  · have hm : w ∈ TB := by
      rcases List.mem_cons.mp e with e | e
      · rw [e]; exact h1
      rcases List.mem_cons.mp e with e | e
      · rw [e]; exact h2
      rcases List.mem_cons.mp e with e | e
      · rw [e]; exact h4
      · cases e
    exact ⟨hm, good_of_word (List.mem_filter.mp hm).2⟩
  · exact good_TB h w e
-- nest words
def nw_is : Cond → Bool
  | .fieldLinkNest .. => true
  | .methodLinkNest .. => true
  | .arrayOver (.object _) => true
  | _ => false
def NWs : List Cond := tables_1.filter nw_is
theorem NW_of {w : Cond} (i : Nat) (h : tables_1[i]? = some w) (g : nw_is w = true) : w ∈ NWs := List.mem_filter.mpr ⟨List.mem_of_getElem? h, g⟩
abbrev TY (cy : Nat → ClassId) : List (ClassId × FieldType) := [(cy 0, .byte), (cy 1, .int), (cy 2, .long), (cy 3, .boolean), (cy 4, .object "LieClock$State"), (cy 5, .object "LieClock$Tape")]
def KK (G : va_G) (cy : Nat → ClassId) (U : State) : Prop := va_K G vwCl (TY cy) U ∧ ∀ w ∈ NWs, va_Nw w U
theorem KK.warm {G : va_G} {cy : Nat → ClassId} {s U : State} (hW : s.WarmedH U.vm) (h : KK G cy s) : KK G cy U := by
  refine ⟨va_K.moved hW.alike h.1, fun w hw => ?_⟩
  have h1 := h.2 w hw
  have h2 := (List.mem_filter.mp hw).2
  cases w with
  | fieldLinkNest => exact va_Nw.warmF hW h1
  | methodLinkNest => exact va_Nw.warmM hW h1
  | arrayOver t =>
    cases t with
    | object C => exact va_AO.use (A := #[]) (va_AO.moved hW.alike (va_AO.of h1))
    | _ => cases h2
  | _ => cases h2
theorem KK.same {G : va_G} {cy : Nat → ClassId} {s U : State} (hv : s.vm = U.vm) (h : KK G cy s) : KK G cy U := by
  refine ⟨va_K.moved (by rw [hv]; exact Vm.Alike.refl _) h.1, fun w hw => ?_⟩
  have h1 := h.2 w hw
  have h2 := (List.mem_filter.mp hw).2
  cases w with
  | fieldLinkNest => exact va_Nw.same rfl hv h1
  | methodLinkNest => exact va_Nw.same rfl hv h1
  | arrayOver t =>
    cases t with
    | object C => exact va_AO.use (A := #[]) (va_AO.moved (by rw [hv]; exact Vm.Alike.refl _) (va_AO.of h1))
    | _ => cases h2
  | _ => cases h2
theorem KK.fl {G : va_G} {cy : Nat → ClassId} {s : State} {args : Array Value} {a b n d h : String} {i : Nat} (hK : KK G cy s) (hw : Cond.fieldLinkNest a i b n d h ∈ NWs) : (Cond.fieldLinkNest a i b n d h).before args s = true := va_Nw.use rfl (hK.2 _ hw)
theorem arr_eq {G : va_G} {cy : Nat → ClassId} {s : State} {cA c0 : ClassId} {ty : FieldType} (hK : KK G cy s) (h2 : va_K G vwCl (TY cy ++ [(cA, ty)]) s) (t : Nat) (ht : (TY cy)[t]? = some (c0, ty)) : cA = c0 := by
  have a := (h2.2 6 (cA, ty) rfl).2
  have b := (hK.1.2 t _ ht).2
  cases ty with
  | object C =>
    obtain ⟨_, _, _, _, _, q1⟩ := a
    obtain ⟨_, _, _, _, _, q2⟩ := b
    exact Option.some.inj (q1.symm.trans q2)
  | _ => exact Option.some.inj (a.symm.trans b)
-- what lies outside: the two texts, String's switch, the index rule's formatter, the table of states
def lenS : List Nat := [91, 8]
def bytS : List (List Int32) := [[102, 97, 99, 116, 32, 121, 101, 115, 32, 110, 111, 32, 111, 112, 101, 110, 32, 119, 105, 116, 110, 101, 115, 115, 32, 119, 111, 114, 100, 32, 115, 101, 108, 102, 32, 99, 97, 115, 101, 32, 98, 97, 99, 107, 32, 102, 111, 114, 116, 104, 32, 99, 108, 111, 99, 107, 32, 111, 114, 32, 97, 110, 100, 32, 110, 111, 116, 32, 108, 105, 101, 115, 32, 115, 97, 105, 100, 32, 109, 105, 110, 117, 116, 101, 32, 104, 101, 97, 114, 100, 32], [59, 61, 43, 45, 42, 47, 40, 41]]
abbrev Ev : Type := (Nat → Nat) × (Nat → Nat)
def EV (ev : Ev) (A : Nat → Prop) (U : State) (H : Heap) : Prop := vk_S 2 lenS bytS ev.1 ev.2 A U H ∧ va_Z "java/lang/String" "COMPACT_STRINGS" "Z" (.int 1) A U H ∧ va_Zq "jdk/internal/util/Preconditions" "SIOOBE_FORMATTER" "Ljava/util/function/BiFunction;" A U H ∧ vk_R "LieClock$Tokens" 25 "fact yes no open witness word self case back forth clock or and not lies said minute heard " (ev.1 0) U ∧ vk_R "LieClock$Tokens" 80 ";=+-*/()" (ev.1 1) U
theorem EV.warm {ev : Ev} {A : Nat → Prop} {s U : State} {H : Heap} (hW : s.WarmedH U.vm) (h : EV ev A s H) : EV ev A U H := ⟨h.1.moved hW.alike, h.2.1.moved hW.alike, h.2.2.1.moved hW.alike, h.2.2.2.1.warm hW, h.2.2.2.2.warm hW⟩
theorem EV.same {ev : Ev} {A : Nat → Prop} {s U : State} {H : Heap} (hv : s.vm = U.vm) (h : EV ev A s H) : EV ev A U H := by
  have ha : s.vm.Alike U.vm := by rw [hv]; exact Vm.Alike.refl _
  exact ⟨h.1.moved ha, h.2.1.moved ha, h.2.2.1.moved ha, h.2.2.2.1.same hv.symm, h.2.2.2.2.same hv.symm⟩
theorem EV.kept {ev : Ev} {A : Nat → Prop} {U : State} {H H1 : Heap} (h : EV ev A U H) (hq : ∀ a : Nat, a < H.size → ¬ A a → H1[a]? = H[a]?) : EV ev A U H1 := ⟨h.1.kept hq, h.2.1.kept hq, h.2.2.1.kept hq, h.2.2.2⟩
theorem EV.narrow {ev : Ev} {A B : Nat → Prop} {U : State} {H : Heap} (h : EV ev A U H) (hAB : ∀ q, B q → A q) : EV ev B U H := ⟨h.1.narrow hAB, h.2.1.narrow hAB, h.2.2.1.narrow hAB, h.2.2.2⟩
-- a contract's start and end
def PB (av : List Value) (sz : Nat) (G : va_G) (cy : Nat → ClassId) (ev : Ev) (ws : va_W) : Array Value → State → Prop := va_Pc av (fun U => U.heap.size = sz ∧ va_P G vwCl ws U.heap ∧ KK G cy U ∧ va_D (fun _ => True) ws ∧ EV ev (va_A ws sz) U U.heap)
theorem PB.blind {av : List Value} {sz : Nat} {G : va_G} {cy : Nat → ClassId} {ev : Ev} {ws : va_W} : FrameBlind (PB av sz G cy ev ws) := fun _ U _ _ h => ⟨h.1, h.2.1, h.2.2.1, KK.same (s := U) rfl h.2.2.2.1, h.2.2.2.2.1, EV.same (s := U) rfl h.2.2.2.2.2⟩
abbrev QBv {S : Type} (post : S → Prop) (G : va_G) (W2 : S → va_W) (A : Nat → Prop) := va_Qv post (fun u t => va_P G vwCl (W2 u) t.heap ∧ va_D A (W2 u)) A
abbrev QBi {S : Type} (post : Int32 → S → Prop) (G : va_G) (W2 : S → va_W) (A : Nat → Prop) := va_Qi post (fun u t => va_P G vwCl (W2 u) t.heap ∧ va_D A (W2 u)) A
abbrev QBl {S : Type} (post : Int64 → S → Prop) (G : va_G) (W2 : S → va_W) (A : Nat → Prop) := va_Ql post (fun u t => va_P G vwCl (W2 u) t.heap ∧ va_D A (W2 u)) A
theorem sub_PD {ws W1 : va_W} {is : List Nat} (hC : is.map (fun i => ws[i]?) = W1.map some) : is.filterMap (fun i => ws[i]?) = W1 := by
  induction is generalizing W1 with
  | nil => cases W1 with
    | nil => rfl
    | cons => simp at hC
  | cons i is ih => cases W1 with
    | nil => simp at hC
    | cons w W1 =>
      simp only [List.map_cons, List.cons.injEq] at hC
      rw [List.filterMap_cons, hC.1]
      simp only [ih hC.2]
theorem PB.preS {s : State} {H : Heap} {locs : List Loc} {G : va_G} {cy : Nat → ClassId} {ev : Ev} {ws W1 : va_W} {A : Nat → Prop} {av : List Value} (hK : KK G cy s) (hE : EV ev A s s.heap) (hS : va_S A s.heap H locs) (hA : ∀ q, s.heap.size ≤ q → A q) (hP : va_P G vwCl ws H) (hD : va_D A ws) (is : List Nat) (hC : is.map (fun i => ws[i]?) = W1.map some) (hn : va_nd is = true) : PreS s H (PB av H.size G cy ev W1) av :=
  ⟨PB.blind, fun U hU hW => ⟨rfl, by rw [hU], by rw [hU]; exact hP.sub is (sub_PD hC), KK.warm hW hK, (hD.sub is hn hC).weaken (fun _ _ _ _ => trivial), by rw [hU]; exact ((hE.kept hS.2.1).narrow (va_free (wc := W1) hD hS hA is hC)).warm hW⟩⟩
theorem PB.preV {s : State} {H : Heap} {locs : List Loc} {G : va_G} {cy : Nat → ClassId} {ev : Ev} {ws W1 : va_W} {A : Nat → Prop} {b q0 ci : Nat} {fs As : List Value} {r : vw_C} (hK : KK G cy s) (hE : EV ev A s s.heap) (hS : va_S A s.heap H locs) (hA : ∀ q, s.heap.size ≤ q → A q) (hP : va_P G vwCl ws H) (hD : va_D A ws) (is : List Nat) (hC : is.map (fun i => ws[i]?) = W1.map some) (hn : va_nd is = true) (hc : vwCl[ci]? = some r) (he : ws[q0]? = some (b, .inr (ci, fs))) : PreV s H r.1 b (PB (.ref b :: As) H.size G cy ev W1) As :=
  ⟨PB.blind, va_recv hK.1 hP hc he, fun U hU hW => ⟨rfl, by rw [hU], by rw [hU]; exact hP.sub is (sub_PD hC), KK.warm hW hK, (hD.sub is hn hC).weaken (fun _ _ _ _ => trivial), by rw [hU]; exact ((hE.kept hS.2.1).narrow (va_free (wc := W1) hD hS hA is hC)).warm hW⟩⟩
theorem met_of {l : Launch} {y : MethodName} {cc : ByteArray} {L : Nat} {ret : Option FieldType} {rm : Room} {av : List Value} {sz : Nat} {G : va_G} {cy : Nat → ClassId} {ev : Ev} {W0 : va_W} {Qc : (Nat → Prop) → Array Value → State → Outcome → State → Prop} (hy : plainName y.cls = true) (hL : (lg_sl av).length ≤ L)
    (body : ∀ (p : Program) (e : Env) (s : State) (m : MethodId) (below : List Frame) (meth : Method) (c : Code), p.tables.exec = Jvm.exec → c.code = cc → meth.sig.returnType = ret → c.maxLocals = L → s.vm.findClass y.cls = some m.cls → (∀ w ∈ TB, w.before av.toArray s = true) → meth.locks = false → meth.name = y.name → KK G cy s → ∀ (A : Nat → Prop), (∀ q : Nat, s.heap.size ≤ q → A q) → EV ev A s s.heap → va_P G vwCl W0 s.heap → va_D A W0 → va_S A s.heap s.heap [] → ∀ ls : Array Slot, lv_has ls L (lv_args 0 av) →
      W p l e rm s m av.toArray below meth c s.heap [] 0 0 (MQ below (Qc A) av.toArray s rm.cells rm.slots A) (F0 m 0 ls [])) : Met l y (WS y cc L ret) rm (PB av sz G cy ev W0) (Qc (va_A W0 sz)) rm.cells rm.slots (va_A W0 sz) := by
  refine Met.ofW (cc := cc) (maxL := L) (ret := ret) hy rfl ?_
  intro p e s m args below meth c s₁ B hml hv
  obtain ⟨rfl, hsz, hP, hK, hD0, hE⟩ := hv
  subst hsz
  have hts := atoms_spec (ws := WS y cc L ret) B.pre
  have hD := hD0.self (sz := s.heap.size)
  have hl := lv_entry av (n := L) hL
  rw [lg_entry_eq]
  generalize (lg_sl av ++ List.replicate (L - (lg_sl av).length) Slot.unset).toArray = ls at hl ⊢
  exact body p e s m below meth c B.exec B.bytes B.returns hml (findClass_of_methodNamed B.named) (fun w h => hts w (List.mem_cons_of_mem _ h)) B.notSynchronized (name_of_methodNamed B.named B.method).1 hK _ (fun q h => Or.inr h) hE hP hD va_S.rf ls hl
abbrev PD (G : va_G) (A : Nat → Prop) (ws : va_W) (H : Heap) : Prop := va_P G vwCl ws H ∧ va_D A ws
section BK
variable {p : Program} {l : Launch} {e : Env} {R : Room} {s : State} {m : MethodId} {args : Array Value} {below : List Frame} {meth : Method} {c : Code} {H : Heap} {locs : List Loc} {cells slots mc ms : Nat} {Q : State → Prop} {cc : ByteArray} {pc : Nat} {ls : Array Slot} {rest st0 : List Value} {G : va_G} {cy : Nat → ClassId} {ws W1 wr : va_W} {A : Nat → Prop} {H0 : Heap}
theorem kc_v {S : Type} {post : S → Prop} {W2 : S → va_W} {av : Array Value} (is rs : List Nat) (hC : is.map (fun i => ws[i]?) = W1.map some) (hR : rs.map (fun i => ws[i]?) = wr.map some) (hn : va_nd rs = true) (hdis : ∀ i ∈ rs, i ∉ is) (hP : va_P G vwCl ws H) (hD : va_D A ws) (hS : va_S A H0 H locs) (hA : ∀ q, H0.size ≤ q → A q)
    (hr : va_Run p l e R s m args below meth c H locs cells slots mc ms (F0 m pc ls st0) rest (QBv post G W2 (va_A W1 H.size) av) (va_A W1 H.size))
    (kk : ∀ (u : S) (H1 : Heap) (locs1 : List Loc), post u → va_P G vwCl (wr ++ W2 u) H1 → va_D A (wr ++ W2 u) → va_S A H0 H1 locs1 → W p l e R s m args below meth c H1 locs1 (cells + mc) (slots + ms) Q (F0 m (pc + 3) ls rest)) : W p l e R s m args below meth c H locs cells slots Q (F0 m pc ls st0) := by
  have hFc := va_free (wc := W1) hD hS hA is hC
  refine va_callv hr hS (fun q _ h => hFc q h) hFc (fun u t H1 locs1 ht hvm hw hB hz1 hk1 hS1 => ?_)
  obtain ⟨hP1, hD1⟩ := hB
  rw [ht] at hP1
  obtain ⟨hP2, hD2⟩ := va_join (wr := wr) (w1 := W2 u) hP hD is rs hC hR hn hdis hk1 hFc hP1 hD1
  exact kk u H1 locs1 hw hP2 hD2 hS1
theorem kc_i {S : Type} {post : Int32 → S → Prop} {W2 : S → va_W} {av : Array Value} (is rs : List Nat) (hC : is.map (fun i => ws[i]?) = W1.map some) (hR : rs.map (fun i => ws[i]?) = wr.map some) (hn : va_nd rs = true) (hdis : ∀ i ∈ rs, i ∉ is) (hP : va_P G vwCl ws H) (hD : va_D A ws) (hS : va_S A H0 H locs) (hA : ∀ q, H0.size ≤ q → A q)
    (hr : va_Run p l e R s m args below meth c H locs cells slots mc ms (F0 m pc ls st0) rest (QBi post G W2 (va_A W1 H.size) av) (va_A W1 H.size))
    (kk : ∀ (r : Int32) (u : S) (H1 : Heap) (locs1 : List Loc), post r u → va_P G vwCl (wr ++ W2 u) H1 → va_D A (wr ++ W2 u) → va_S A H0 H1 locs1 → W p l e R s m args below meth c H1 locs1 (cells + mc) (slots + ms) Q (F0 m (pc + 3) ls (.int r :: rest))) : W p l e R s m args below meth c H locs cells slots Q (F0 m pc ls st0) := by
  have hFc := va_free (wc := W1) hD hS hA is hC
  refine va_calli hr hS (fun q _ h => hFc q h) hFc (fun r u t H1 locs1 ht hvm hw hB hz1 hk1 hS1 => ?_)
  obtain ⟨hP1, hD1⟩ := hB
  rw [ht] at hP1
  obtain ⟨hP2, hD2⟩ := va_join (wr := wr) (w1 := W2 u) hP hD is rs hC hR hn hdis hk1 hFc hP1 hD1
  exact kk r u H1 locs1 hw hP2 hD2 hS1
theorem kc_l {S : Type} {post : Int64 → S → Prop} {W2 : S → va_W} {av : Array Value} (is rs : List Nat) (hC : is.map (fun i => ws[i]?) = W1.map some) (hR : rs.map (fun i => ws[i]?) = wr.map some) (hn : va_nd rs = true) (hdis : ∀ i ∈ rs, i ∉ is) (hP : va_P G vwCl ws H) (hD : va_D A ws) (hS : va_S A H0 H locs) (hA : ∀ q, H0.size ≤ q → A q)
    (hr : va_Run p l e R s m args below meth c H locs cells slots mc ms (F0 m pc ls st0) rest (QBl post G W2 (va_A W1 H.size) av) (va_A W1 H.size))
    (kk : ∀ (r : Int64) (u : S) (H1 : Heap) (locs1 : List Loc), post r u → va_P G vwCl (wr ++ W2 u) H1 → va_D A (wr ++ W2 u) → va_S A H0 H1 locs1 → W p l e R s m args below meth c H1 locs1 (cells + mc) (slots + ms) Q (F0 m (pc + 3) ls (.long r :: rest))) : W p l e R s m args below meth c H locs cells slots Q (F0 m pc ls st0) := by
  have hFc := va_free (wc := W1) hD hS hA is hC
  refine va_calll hr hS (fun q _ h => hFc q h) hFc (fun r u t H1 locs1 ht hvm hw hB hz1 hk1 hS1 => ?_)
  obtain ⟨hP1, hD1⟩ := hB
  rw [ht] at hP1
  obtain ⟨hP2, hD2⟩ := va_join (wr := wr) (w1 := W2 u) hP hD is rs hC hR hn hdis hk1 hFc hP1 hD1
  exact kk r u H1 locs1 hw hP2 hD2 hS1
theorem kr_v {S : Type} {post : S → Prop} {W2 : S → va_W} {k n : Nat} (hx : p.tables.exec = Jvm.exec) (hb : c.code = cc) (hr : meth.sig.returnType = none) (hlocks : meth.locks = false) (hP : va_P G vwCl ws H) (hD : va_D A ws) (hS : va_S A s.heap H locs) (u : S) (hw : post u) (is : List Nat) (hC : is.map (fun i => ws[i]?) = (W2 u).map some) (hn : va_nd is = true) (h1 : cells ≤ k) (h2 : slots ≤ n) (hdg : decode cc pc = .ok (.return_, 1)) : W p l e R s m args below meth c H locs cells slots (MQ below (QBv post G W2 A) args s k n A) (F0 m pc ls []) :=
  W.widen h1 h2 (W.vret hx hb hr (fun t ht _ => ⟨⟨u, rfl, hw, by rw [ht]; exact hP.sub is (sub_PD hC), hD.sub is hn hC⟩, hS.F ht⟩) hS.2.2 hdg hlocks)
theorem kr_i {S : Type} {post : Int32 → S → Prop} {W2 : S → va_W} {k n : Nat} {v : Int32} {ty : FieldType} (hx : p.tables.exec = Jvm.exec) (hb : c.code = cc) (hr : meth.sig.returnType = some ty) (hlocks : meth.locks = false) (hP : va_P G vwCl ws H) (hD : va_D A ws) (hS : va_S A s.heap H locs) (hv : narrow ty (.int v) = .int v) (u : S) (hw : post v u) (is : List Nat) (hC : is.map (fun i => ws[i]?) = (W2 u).map some) (hn : va_nd is = true) (h1 : cells ≤ k) (h2 : slots ≤ n) (hdg : decode cc pc = .ok (.ireturn, 1)) : W p l e R s m args below meth c H locs cells slots (MQ below (QBi post G W2 A) args s k n A) (F0 m pc ls [.int v]) :=
  W.widen h1 h2 (W.zret hx hb hr hv (fun t ht _ => ⟨⟨v, u, rfl, hw, by rw [ht]; exact hP.sub is (sub_PD hC), hD.sub is hn hC⟩, hS.F ht⟩) hS.2.2 hdg hlocks)
theorem kr_l {S : Type} {post : Int64 → S → Prop} {W2 : S → va_W} {k n : Nat} {v : Int64} (hx : p.tables.exec = Jvm.exec) (hb : c.code = cc) (hr : meth.sig.returnType = some .long) (hlocks : meth.locks = false) (hP : va_P G vwCl ws H) (hD : va_D A ws) (hS : va_S A s.heap H locs) (u : S) (hw : post v u) (is : List Nat) (hC : is.map (fun i => ws[i]?) = (W2 u).map some) (hn : va_nd is = true) (h1 : cells ≤ k) (h2 : slots ≤ n) (hdg : decode cc pc = .ok (.lreturn, 1)) : W p l e R s m args below meth c H locs cells slots (MQ below (QBl post G W2 A) args s k n A) (F0 m pc ls [.long v]) :=
  W.widen h1 h2 (W.lret hx hb hr (fun t ht _ => ⟨⟨v, u, rfl, hw, by rw [ht]; exact hP.sub is (sub_PD hC), hD.sub is hn hC⟩, hS.F ht⟩) hS.2.2 hdg hlocks)
theorem kn_a (hx : p.tables.exec = Jvm.exec) (hb : c.code = cc) {atype : ArrayType} (harr : (Cond.arrayClass (newarray.typeOf atype)).before args s = true) {ty : FieldType} (hty : newarray.typeOf atype = ty) (hK : KK G cy s) (hP : va_P G vwCl ws H) (hD : va_D A ws) (hS : va_S A H0 H locs) (hA : ∀ q, H0.size ≤ q → A q) (t : Nat) {c0 : ClassId} (ht : (TY cy)[t]? = some (c0, ty))
    {n : Int32} {N' : Nat} {a0 : vp_A} (ha : ∀ cA : ClassId, vp_cell cA a0 = arrV cA N' (fun _ => defaultValue ty)) (hn : ¬ n < 0) (hN : n.toNatClampNeg = N') (hbytes : N' * componentBytes ty ≤ 536870912) (hcells : cells + 1 ≤ R.cells) (hslots : slots + N' ≤ R.slots) (hdg : decode cc pc = .ok (.newarray atype, 2))
    (kk : ∀ (q : Nat) (H1 : Heap), va_P G vwCl (ws ++ [(q, .inl (c0, a0))]) H1 → va_D A (ws ++ [(q, .inl (c0, a0))]) → va_S A H0 H1 locs → W p l e R s m args below meth c H1 locs (cells + 1) (slots + N') Q (F0 m (pc + 2) ls (.ref q :: rest))) : W p l e R s m args below meth c H locs cells slots Q (F0 m pc ls (.int n :: rest)) := by
  refine va_newa hx hb harr hty hK.1 hP hD hS hA ha hn hN hbytes hcells hslots hdg (fun q cA H1 hK2 hP2 hD2 hS2 => ?_)
  have e := arr_eq hK hK2 t ht
  subst e
  exact kk q H1 hP2 hD2 hS2
theorem kn_q (hx : p.tables.exec = Jvm.exec) (hb : c.code = cc) {own C : String} {index : Nat} (hown : s.vm.findClass own = some m.cls) (hclink : (Cond.classLink own index C).before args s = true) (hover : Cond.arrayOver (.object C) ∈ NWs) (hK : KK G cy s) (hP : va_P G vwCl ws H) (hD : va_D A ws) (hS : va_S A H0 H locs) (hA : ∀ q, H0.size ≤ q → A q) (t : Nat) {c0 : ClassId} (ht : (TY cy)[t]? = some (c0, .object C))
    {n : Int32} {N' : Nat} (hn : ¬ n < 0) (hN : n.toNatClampNeg = N') (hbytes : N' * 4 ≤ 536870912) (hcells : cells + 1 ≤ R.cells) (hslots : slots + N' ≤ R.slots) (hdg : decode cc pc = .ok (.anewarray index, 3))
    (kk : ∀ (q : Nat) (H1 : Heap), va_P G vwCl (ws ++ [(q, .inl (c0, N', .inr (.inr (.inr (.inr (fun _ => none))))))]) H1 → va_D A (ws ++ [(q, .inl (c0, N', .inr (.inr (.inr (.inr (fun _ => none))))))]) → va_S A H0 H1 locs → W p l e R s m args below meth c H1 locs (cells + 1) (slots + N') Q (F0 m (pc + 3) ls (.ref q :: rest))) : W p l e R s m args below meth c H locs cells slots Q (F0 m pc ls (.int n :: rest)) := by
  refine va_newq hx hb hown hclink (va_AO.of (A := #[]) (hK.2 _ hover)) hK.1 hP hD hS hA hn hN hbytes hcells hslots hdg (fun q cA H1 hK2 hP2 hD2 hS2 => ?_)
  have e := arr_eq hK hK2 t ht
  subst e
  exact kk q H1 hP2 hD2 hS2
end BK
-- rows with the answer named
theorem fa_lt (a b : Int32) : a < b ↔ a.toInt < b.toInt := Int32.lt_iff_toInt_lt
theorem fa_le (a b : Int32) : a ≤ b ↔ a.toInt ≤ b.toInt := Int32.le_iff_toInt_le
theorem bx_lt {x c : Int32} {lo hi : Int} (h : lo ≤ x.toInt ∧ x.toInt ≤ hi) (hc : hi < c.toInt) : x < c := by rw [fa_lt]; omega
theorem bx_nlt {x c : Int32} {lo hi : Int} (h : lo ≤ x.toInt ∧ x.toInt ≤ hi) (hc : c.toInt ≤ lo) : ¬ x < c := by rw [fa_lt]; omega
theorem bx_le {x c : Int32} {lo hi : Int} (h : lo ≤ x.toInt ∧ x.toInt ≤ hi) (hc : hi ≤ c.toInt) : x ≤ c := by rw [fa_le]; omega
theorem bx_nle {x c : Int32} {lo hi : Int} (h : lo ≤ x.toInt ∧ x.toInt ≤ hi) (hc : c.toInt < lo) : ¬ x ≤ c := by rw [fa_le]; omega
theorem xb_lt {x c : Int32} {lo hi : Int} (h : lo ≤ x.toInt ∧ x.toInt ≤ hi) (hc : c.toInt < lo) : c < x := by rw [fa_lt]; omega
theorem xb_nlt {x c : Int32} {lo hi : Int} (h : lo ≤ x.toInt ∧ x.toInt ≤ hi) (hc : hi ≤ c.toInt) : ¬ c < x := by rw [fa_lt]; omega
theorem xb_le {x c : Int32} {lo hi : Int} (h : lo ≤ x.toInt ∧ x.toInt ≤ hi) (hc : c.toInt ≤ lo) : c ≤ x := by rw [fa_le]; omega
theorem xb_nle {x c : Int32} {lo hi : Int} (h : lo ≤ x.toInt ∧ x.toInt ≤ hi) (hc : hi < c.toInt) : ¬ c ≤ x := by rw [fa_le]; omega
theorem bx_ne {x c : Int32} {lo hi : Int} (h : lo ≤ x.toInt ∧ x.toInt ≤ hi) (hc : hi < c.toInt ∨ c.toInt < lo) : ¬ x = c := fun e => by subst e; omega
theorem xb_ne {x c : Int32} {lo hi : Int} (h : lo ≤ x.toInt ∧ x.toInt ≤ hi) (hc : hi < c.toInt ∨ c.toInt < lo) : ¬ c = x := fun e => by subst e; omega
theorem sh0 (x : Int32) : x >>> ((0 : Int32) &&& 31) = x := by
  have h := pk_shr x ((0 : Int32) &&& 31) 0 (by decide)
  exact Int32.toInt_inj.mp (by rw [h]; exact Int.shiftRight_zero _)
theorem upd0 (k : Nat) : upd (fun _ => (0 : Int32)) k 0 = (fun _ => 0) := by funext j; simp [upd]
theorem updL0 (k : Nat) : vp_updL (fun _ => (0 : Int64)) k 0 = (fun _ => 0) := by funext j; simp [vp_updL]
theorem cpy0 (a b n : Nat) : va_cpy (fun _ => (0 : Int32)) (fun _ => 0) a b n = (fun _ => 0) := by funext j; simp [va_cpy]
theorem up_self {α : Type} (f : Nat → Option α) (k : Nat) (v : Option α) (h : f k = v) : f = va_up f k v := by
  funext j
  by_cases e : j = k
  · subst e; simp [va_up, h]
  · simp [va_up, e]
section KX
variable {p : Program} {l : Launch} {e : Env} {R : Room} {s : State} {m : MethodId} {args : Array Value} {below : List Frame} {meth : Method} {c : Code} {H : Heap} {locs : List Loc} {cells slots : Nat} {Q : State → Prop} {cc : ByteArray} {pc : Nat} {ls : Array Slot} {rest : List Value}
theorem kx_iadd (hx : p.tables.exec = Jvm.exec) (hb : c.code = cc) {x y v : Int32} (hd : decode cc pc = .ok (.iadd, 1)) (hv : x + y = v) (k : W p l e R s m args below meth c H locs cells slots Q (F0 m (pc + 1) ls (.int v :: rest))) : W p l e R s m args below meth c H locs cells slots Q (F0 m pc ls (.int y :: .int x :: rest)) := lv_iadd hx hb hd (by rw [hv]; exact k)
theorem kx_isub (hx : p.tables.exec = Jvm.exec) (hb : c.code = cc) {x y v : Int32} (hd : decode cc pc = .ok (.isub, 1)) (hv : x - y = v) (k : W p l e R s m args below meth c H locs cells slots Q (F0 m (pc + 1) ls (.int v :: rest))) : W p l e R s m args below meth c H locs cells slots Q (F0 m pc ls (.int y :: .int x :: rest)) := lv_isub hx hb hd (by rw [hv]; exact k)
theorem kx_imul (hx : p.tables.exec = Jvm.exec) (hb : c.code = cc) {x y v : Int32} (hd : decode cc pc = .ok (.imul, 1)) (hv : x * y = v) (k : W p l e R s m args below meth c H locs cells slots Q (F0 m (pc + 1) ls (.int v :: rest))) : W p l e R s m args below meth c H locs cells slots Q (F0 m pc ls (.int y :: .int x :: rest)) := lv_imul hx hb hd (by rw [hv]; exact k)
theorem kx_iand (hx : p.tables.exec = Jvm.exec) (hb : c.code = cc) {x y v : Int32} (hd : decode cc pc = .ok (.iand, 1)) (hv : x &&& y = v) (k : W p l e R s m args below meth c H locs cells slots Q (F0 m (pc + 1) ls (.int v :: rest))) : W p l e R s m args below meth c H locs cells slots Q (F0 m pc ls (.int y :: .int x :: rest)) := lv_iand hx hb hd (by rw [hv]; exact k)
theorem kx_ior (hx : p.tables.exec = Jvm.exec) (hb : c.code = cc) {x y v : Int32} (hd : decode cc pc = .ok (.ior, 1)) (hv : x ||| y = v) (k : W p l e R s m args below meth c H locs cells slots Q (F0 m (pc + 1) ls (.int v :: rest))) : W p l e R s m args below meth c H locs cells slots Q (F0 m pc ls (.int y :: .int x :: rest)) := lv_ior hx hb hd (by rw [hv]; exact k)
theorem kx_ixor (hx : p.tables.exec = Jvm.exec) (hb : c.code = cc) {x y v : Int32} (hd : decode cc pc = .ok (.ixor, 1)) (hv : x ^^^ y = v) (k : W p l e R s m args below meth c H locs cells slots Q (F0 m (pc + 1) ls (.int v :: rest))) : W p l e R s m args below meth c H locs cells slots Q (F0 m pc ls (.int y :: .int x :: rest)) := lv_ixor hx hb hd (by rw [hv]; exact k)
theorem kx_ladd (hx : p.tables.exec = Jvm.exec) (hb : c.code = cc) {x y v : Int64} (hd : decode cc pc = .ok (.ladd, 1)) (hv : x + y = v) (k : W p l e R s m args below meth c H locs cells slots Q (F0 m (pc + 1) ls (.long v :: rest))) : W p l e R s m args below meth c H locs cells slots Q (F0 m pc ls (.long y :: .long x :: rest)) := lv_ladd hx hb hd (by rw [hv]; exact k)
theorem kx_lsub (hx : p.tables.exec = Jvm.exec) (hb : c.code = cc) {x y v : Int64} (hd : decode cc pc = .ok (.lsub, 1)) (hv : x - y = v) (k : W p l e R s m args below meth c H locs cells slots Q (F0 m (pc + 1) ls (.long v :: rest))) : W p l e R s m args below meth c H locs cells slots Q (F0 m pc ls (.long y :: .long x :: rest)) := lv_lsub hx hb hd (by rw [hv]; exact k)
theorem kx_lmul (hx : p.tables.exec = Jvm.exec) (hb : c.code = cc) {x y v : Int64} (hd : decode cc pc = .ok (.lmul, 1)) (hv : x * y = v) (k : W p l e R s m args below meth c H locs cells slots Q (F0 m (pc + 1) ls (.long v :: rest))) : W p l e R s m args below meth c H locs cells slots Q (F0 m pc ls (.long y :: .long x :: rest)) := lv_lmul hx hb hd (by rw [hv]; exact k)
theorem kx_land (hx : p.tables.exec = Jvm.exec) (hb : c.code = cc) {x y v : Int64} (hd : decode cc pc = .ok (.land, 1)) (hv : x &&& y = v) (k : W p l e R s m args below meth c H locs cells slots Q (F0 m (pc + 1) ls (.long v :: rest))) : W p l e R s m args below meth c H locs cells slots Q (F0 m pc ls (.long y :: .long x :: rest)) := lv_land hx hb hd (by rw [hv]; exact k)
theorem kx_lor (hx : p.tables.exec = Jvm.exec) (hb : c.code = cc) {x y v : Int64} (hd : decode cc pc = .ok (.lor, 1)) (hv : x ||| y = v) (k : W p l e R s m args below meth c H locs cells slots Q (F0 m (pc + 1) ls (.long v :: rest))) : W p l e R s m args below meth c H locs cells slots Q (F0 m pc ls (.long y :: .long x :: rest)) := lv_lor hx hb hd (by rw [hv]; exact k)
theorem kx_lxor (hx : p.tables.exec = Jvm.exec) (hb : c.code = cc) {x y v : Int64} (hd : decode cc pc = .ok (.lxor, 1)) (hv : x ^^^ y = v) (k : W p l e R s m args below meth c H locs cells slots Q (F0 m (pc + 1) ls (.long v :: rest))) : W p l e R s m args below meth c H locs cells slots Q (F0 m pc ls (.long y :: .long x :: rest)) := lv_lxor hx hb hd (by rw [hv]; exact k)
theorem kx_ishl (hx : p.tables.exec = Jvm.exec) (hb : c.code = cc) {x y v : Int32} (hd : decode cc pc = .ok (.ishl, 1)) (hv : x <<< (y &&& 31) = v) (k : W p l e R s m args below meth c H locs cells slots Q (F0 m (pc + 1) ls (.int v :: rest))) : W p l e R s m args below meth c H locs cells slots Q (F0 m pc ls (.int y :: .int x :: rest)) := lv_ishl hx hb hd (by rw [hv]; exact k)
theorem kx_ishr (hx : p.tables.exec = Jvm.exec) (hb : c.code = cc) {x y v : Int32} (hd : decode cc pc = .ok (.ishr, 1)) (hv : x >>> (y &&& 31) = v) (k : W p l e R s m args below meth c H locs cells slots Q (F0 m (pc + 1) ls (.int v :: rest))) : W p l e R s m args below meth c H locs cells slots Q (F0 m pc ls (.int y :: .int x :: rest)) := lv_ishr hx hb hd (by rw [hv]; exact k)
theorem kx_irem (hx : p.tables.exec = Jvm.exec) (hb : c.code = cc) {x y v : Int32} (hd : decode cc pc = .ok (.irem, 1)) (hne : ¬ y = 0) (hv : x - x / y * y = v) (k : W p l e R s m args below meth c H locs cells slots Q (F0 m (pc + 1) ls (.int v :: rest))) : W p l e R s m args below meth c H locs cells slots Q (F0 m pc ls (.int y :: .int x :: rest)) := lv_irem hx hb hd hne (by rw [hv]; exact k)
theorem kx_lcmp (hx : p.tables.exec = Jvm.exec) (hb : c.code = cc) {x y : Int64} {v : Int32} (hd : decode cc pc = .ok (.lcmp, 1)) (hv : lg_cmp x y = v) (k : W p l e R s m args below meth c H locs cells slots Q (F0 m (pc + 1) ls (.int v :: rest))) : W p l e R s m args below meth c H locs cells slots Q (F0 m pc ls (.long y :: .long x :: rest)) := W.lcmp hx hb hd (by rw [hv]; exact k)
variable {G : va_G} {cy : Nat → ClassId} {ws : va_W} {a : Nat}
theorem kx_iald (hx : p.tables.exec = Jvm.exec) (hb : c.code = cc) (hK : KK G cy s) (hP : va_P G vwCl ws H) (q0 t0 : Nat) {cA : ClassId} {n : Nat} {f : Nat → Int32} (ha : ws[q0]? = some (a, .inl (cA, n, .inl f))) (ht : (TY cy)[t0]? = some (cA, .int)) {i : Int32} {v : Int32} (hin : vp_in i n) (hdg : decode cc pc = .ok (.iaload, 1)) (hv : f i.toNatClampNeg = v) (k : W p l e R s m args below meth c H locs cells slots Q (F0 m (pc + 1) ls (.int v :: rest))) : W p l e R s m args below meth c H locs cells slots Q (F0 m pc ls (.int i :: .ref a :: rest)) := va_iald hx hb hK.1 hP q0 t0 ha ht hin hdg (by rw [hv]; exact k)
theorem kx_bald (hx : p.tables.exec = Jvm.exec) (hb : c.code = cc) (hK : KK G cy s) (hP : va_P G vwCl ws H) (q0 t0 : Nat) {cA : ClassId} {n : Nat} {f : Nat → Int32} (ha : ws[q0]? = some (a, .inl (cA, n, .inl f))) (ht : (TY cy)[t0]? = some (cA, .byte)) {i : Int32} {v : Int32} (hin : vp_in i n) (hdg : decode cc pc = .ok (.baload, 1)) (hv : f i.toNatClampNeg = v) (k : W p l e R s m args below meth c H locs cells slots Q (F0 m (pc + 1) ls (.int v :: rest))) : W p l e R s m args below meth c H locs cells slots Q (F0 m pc ls (.int i :: .ref a :: rest)) := va_bald hx hb hK.1 hP q0 t0 ha ht hin hdg (by rw [hv]; exact k)
theorem kx_zald (hx : p.tables.exec = Jvm.exec) (hb : c.code = cc) (hK : KK G cy s) (hP : va_P G vwCl ws H) (q0 t0 : Nat) {cA : ClassId} {n : Nat} {f : Nat → Int32} (ha : ws[q0]? = some (a, .inl (cA, n, .inl f))) (ht : (TY cy)[t0]? = some (cA, .boolean)) {i : Int32} {v : Int32} (hin : vp_in i n) (hdg : decode cc pc = .ok (.baload, 1)) (hv : f i.toNatClampNeg = v) (k : W p l e R s m args below meth c H locs cells slots Q (F0 m (pc + 1) ls (.int v :: rest))) : W p l e R s m args below meth c H locs cells slots Q (F0 m pc ls (.int i :: .ref a :: rest)) := va_zald hx hb hK.1 hP q0 t0 ha ht hin hdg (by rw [hv]; exact k)
theorem kx_lald (hx : p.tables.exec = Jvm.exec) (hb : c.code = cc) (hK : KK G cy s) (hP : va_P G vwCl ws H) (q0 t0 : Nat) {cA : ClassId} {n : Nat} {f : Nat → Int64} (ha : ws[q0]? = some (a, .inl (cA, n, .inr (.inl f)))) (ht : (TY cy)[t0]? = some (cA, .long)) {i : Int32} {v : Int64} (hin : vp_in i n) (hdg : decode cc pc = .ok (.laload, 1)) (hv : f i.toNatClampNeg = v) (k : W p l e R s m args below meth c H locs cells slots Q (F0 m (pc + 1) ls (.long v :: rest))) : W p l e R s m args below meth c H locs cells slots Q (F0 m pc ls (.int i :: .ref a :: rest)) := va_lald hx hb hK.1 hP q0 t0 ha ht hin hdg (by rw [hv]; exact k)
theorem kx_aldq (hx : p.tables.exec = Jvm.exec) (hb : c.code = cc) (hK : KK G cy s) (hP : va_P G vwCl ws H) (q0 t0 : Nat) {cA : ClassId} {C : String} {n : Nat} {f : Nat → Option Nat} (ha : ws[q0]? = some (a, .inl (cA, n, .inr (.inr (.inr (.inr f)))))) (ht : (TY cy)[t0]? = some (cA, .object C)) {i : Int32} {v : Nat} (hin : vp_in i n) (hdg : decode cc pc = .ok (.aaload, 1)) (hv : f i.toNatClampNeg = some v) (k : W p l e R s m args below meth c H locs cells slots Q (F0 m (pc + 1) ls (.ref v :: rest))) : W p l e R s m args below meth c H locs cells slots Q (F0 m pc ls (.int i :: .ref a :: rest)) := va_aldq hx hb hK.1 hP q0 t0 ha ht hin hdg (by rw [hv]; exact k)
variable {A : Nat → Prop} {H0 : Heap}
theorem set_same {α : Type} {l : List α} {k : Nat} {x : α} (h : l[k]? = some x) : l.set k x = l := by
  apply List.ext_getElem?
  intro i
  rw [List.getElem?_set]
  by_cases e : k = i
  · subst e; simp [h]; exact (List.getElem?_eq_some_iff.mp h).1
  · simp [e]
theorem upd_same {f : Nat → Int32} {k : Nat} {x : Int32} (h : f k = x) : upd f k x = f := by funext j; by_cases e : j = k <;> simp [upd, e, ← h]
theorem updL_same {f : Nat → Int64} {k : Nat} {x : Int64} (h : f k = x) : vp_updL f k x = f := by funext j; by_cases e : j = k <;> simp [vp_updL, e, ← h]
theorem ks_iast (hx : p.tables.exec = Jvm.exec) (hb : c.code = cc) (hK : KK G cy s) (hP : va_P G vwCl ws H) (hD : va_D A ws) (hS : va_S A H0 H locs) (q0 t0 : Nat) {cA : ClassId} {n : Nat} {f : Nat → Int32} (ha : ws[q0]? = some (a, .inl (cA, n, .inl f))) (ht : (TY cy)[t0]? = some (cA, .int)) {i : Int32} {x : Int32} (hin : vp_in i n) (hdg : decode cc pc = .ok (.iastore, 1)) (hv : f i.toNatClampNeg = x) (kk : ∀ (H1 : Heap) (locs1 : List Loc), va_P G vwCl ws H1 → va_D A ws → va_S A H0 H1 locs1 → W p l e R s m args below meth c H1 locs1 cells slots Q (F0 m (pc + 1) ls rest)) : W p l e R s m args below meth c H locs cells slots Q (F0 m pc ls (.int x :: .int i :: .ref a :: rest)) := by
  refine va_iast hx hb hK.1 hP hD hS q0 t0 ha ht hin hdg (fun H1 l1 h1 h2 h3 => ?_)
  rw [upd_same hv, set_same ha] at h1 h2
  exact kk H1 l1 h1 h2 h3
theorem ks_zast (hx : p.tables.exec = Jvm.exec) (hb : c.code = cc) (hK : KK G cy s) (hP : va_P G vwCl ws H) (hD : va_D A ws) (hS : va_S A H0 H locs) (q0 t0 : Nat) {cA : ClassId} {n : Nat} {f : Nat → Int32} (ha : ws[q0]? = some (a, .inl (cA, n, .inl f))) (ht : (TY cy)[t0]? = some (cA, .boolean)) {i : Int32} {x : Int32} (hin : vp_in i n) (hdg : decode cc pc = .ok (.bastore, 1)) (hv : f i.toNatClampNeg = vp_nar .boolean x) (kk : ∀ (H1 : Heap) (locs1 : List Loc), va_P G vwCl ws H1 → va_D A ws → va_S A H0 H1 locs1 → W p l e R s m args below meth c H1 locs1 cells slots Q (F0 m (pc + 1) ls rest)) : W p l e R s m args below meth c H locs cells slots Q (F0 m pc ls (.int x :: .int i :: .ref a :: rest)) := by
  refine va_zast hx hb hK.1 hP hD hS q0 t0 ha ht hin hdg (fun H1 l1 h1 h2 h3 => ?_)
  rw [upd_same hv, set_same ha] at h1 h2
  exact kk H1 l1 h1 h2 h3
theorem ks_last (hx : p.tables.exec = Jvm.exec) (hb : c.code = cc) (hK : KK G cy s) (hP : va_P G vwCl ws H) (hD : va_D A ws) (hS : va_S A H0 H locs) (q0 t0 : Nat) {cA : ClassId} {n : Nat} {f : Nat → Int64} (ha : ws[q0]? = some (a, .inl (cA, n, .inr (.inl f)))) (ht : (TY cy)[t0]? = some (cA, .long)) {i : Int32} {x : Int64} (hin : vp_in i n) (hdg : decode cc pc = .ok (.lastore, 1)) (hv : f i.toNatClampNeg = x) (kk : ∀ (H1 : Heap) (locs1 : List Loc), va_P G vwCl ws H1 → va_D A ws → va_S A H0 H1 locs1 → W p l e R s m args below meth c H1 locs1 cells slots Q (F0 m (pc + 1) ls rest)) : W p l e R s m args below meth c H locs cells slots Q (F0 m pc ls (.long x :: .int i :: .ref a :: rest)) := by
  refine va_last hx hb hK.1 hP hD hS q0 t0 ha ht hin hdg (fun H1 l1 h1 h2 h3 => ?_)
  rw [updL_same hv, set_same ha] at h1 h2
  exact kk H1 l1 h1 h2 h3
end KX
-- bounds
theorem b_add {x c : Int32} {lo hi k : Int} (h : lo ≤ x.toInt ∧ x.toInt ≤ hi) (hc : c.toInt = k) (h1 : -2147483648 ≤ lo + k) (h2 : hi + k ≤ 2147483647) : lo + k ≤ (x + c).toInt ∧ (x + c).toInt ≤ hi + k := by
  have e : (x + c).toInt = x.toInt + k := by
    rw [Int32.toInt_add, hc]
    apply Int.bmod_eq_of_le <;> omega
  omega
theorem b_wid {x : Int32} {lo hi lo2 hi2 : Int} (h : lo ≤ x.toInt ∧ x.toInt ≤ hi) (h1 : lo2 ≤ lo) (h2 : hi ≤ hi2) : lo2 ≤ x.toInt ∧ x.toInt ≤ hi2 := by omega
theorem b_nI {n : Nat} {lo hi : Int} (hn : n < 2 ^ 31) (h1 : lo ≤ n) (h2 : (n : Int) ≤ hi) : lo ≤ (nI n).toInt ∧ (nI n).toInt ≤ hi := by rw [nI_toInt hn]; exact ⟨h1, h2⟩
theorem b_of {x : Int32} {lo hi : Int} (h : lo ≤ x.toInt ∧ x.toInt ≤ hi) (h0 : 0 ≤ lo) : ∃ N : Nat, x = nI N ∧ lo ≤ N ∧ (N : Int) ≤ hi ∧ N < 2 ^ 31 := by
  have h00 : (0 : Int32).toInt = 0 := by decide
  have hq : ¬ x < 0 := by
    rw [fa_lt]
    omega
  obtain ⟨j, hj, e⟩ := nI_of (x := x) hq
  have ht := nI_toInt hj
  rw [← e] at ht
  exact ⟨j, e, by omega, by omega, hj⟩
theorem f_nle_up {x c : Int32} {lo hi k : Int} (h : lo ≤ x.toInt ∧ x.toInt ≤ hi) (hc : ¬ c ≤ x) (hk : c.toInt = k + 1) : lo ≤ x.toInt ∧ x.toInt ≤ k := by rw [fa_le] at hc; omega
theorem f_le_lo {x c : Int32} {lo hi k : Int} (h : lo ≤ x.toInt ∧ x.toInt ≤ hi) (hc : c ≤ x) (hk : c.toInt = k) : k ≤ x.toInt ∧ x.toInt ≤ hi := by rw [fa_le] at hc; omega
theorem n_ge {i E : Nat} (c : nI E ≤ nI i) (hE : E < 2 ^ 31) (hi : i ≤ E) : i = E := by
  have := (nI_leI hE (by omega)).mp c
  omega
theorem n_lt {i E : Nat} (c : ¬ nI E ≤ nI i) (hE : E < 2 ^ 31) (hi : i ≤ E) : i < E := by
  rcases Nat.lt_or_ge i E with q | q
  · exact q
  · exact absurd ((nI_leI hE (by omega)).mpr q) c
theorem n_ltc {a b : Nat} (h : a < b) (hb : b < 2 ^ 31) : nI a < nI b := (nI_ltI (by omega) hb).mpr h
theorem n_nlt {a b : Nat} (h : b ≤ a) (ha : a < 2 ^ 31) : ¬ nI a < nI b := fun z => by have := (nI_ltI ha (by omega)).mp z; omega
theorem n_le {a b : Nat} (h : a ≤ b) (hb : b < 2 ^ 31) : nI a ≤ nI b := (nI_leI (by omega) hb).mpr h
theorem n_nle {a b : Nat} (h : b < a) (ha : a < 2 ^ 31) : ¬ nI a ≤ nI b := fun z => by have := (nI_leI ha (by omega)).mp z; omega
theorem n_ne {a b : Nat} (h : a ≠ b) (ha : a < 2 ^ 31) (hb : b < 2 ^ 31) : ¬ nI a = nI b := fun z => h ((nI_eq ha hb).mp z)
theorem PB.preK {s : State} {H : Heap} {locs : List Loc} {G : va_G} {cy : Nat → ClassId} {ev : Ev} {ws W1 : va_W} {A : Nat → Prop} {i : Nat} {As : List Value} (hK : KK G cy s) (hE : EV ev A s s.heap) (hS : va_S A s.heap H locs) (hA : ∀ q, s.heap.size ≤ q → A q) (hP : va_P G vwCl ws H) (hD : va_D A ws) (is : List Nat) (hC : is.map (fun i => ws[i]?) = W1.map some) (hn : va_nd is = true) (hi : i < 2) : PreV s H "java/lang/String" (ev.1 i) (PB (.ref (ev.1 i) :: As) H.size G cy ev W1) As :=
  ⟨PB.blind, vk_recv hE.1 hi hS, (PB.preS hK hE hS hA hP hD is hC hn).2⟩
theorem up_swap {α : Type} {f : Nat → α} {j k : Nat} {a b : α} (h : j ≠ k) : va_up (va_up f j a) k b = va_up (va_up f k b) j a := by
  funext x
  by_cases e1 : x = j
  · subst e1; simp [va_up, h]
  · by_cases e2 : x = k <;> simp [va_up, e1, e2, h.symm]
