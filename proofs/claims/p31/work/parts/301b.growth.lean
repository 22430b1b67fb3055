-- how much has been made, told by the end
def SZx (H H1 : Heap) : Prop := ∀ (q : Nat) (c : Cell), H[q]? = some c → ∃ c', H1[q]? = some c' ∧ c'.slots.size = c.slots.size
def sumx (z : Nat) (H : Heap) : Nat := ((H.toList.drop z).map (·.slots.size)).sum
def USx (z n n1 : Nat) (H : Heap) : Prop := H.size ≤ z + (n1 - n) ∧ sumx z H ≤ 14 * (n1 - n)
theorem Met.szx {l : Launch} {y : MethodName} {ws : List Cond} {rm : Room} {Pc : Array Value → State → Prop} {Qc : Array Value → State → Outcome → State → Prop} {mc ms : Nat} {free : Addr → Prop} (h : Met l y ws rm Pc Qc mc ms free) : Met l y ws rm Pc (fun a st o t => Qc a st o t ∧ SZx st.heap t.heap) mc ms free := by
  intro p e h1 h2 h3 s m args below h4 h5 h6 h7
  obtain ⟨n, o, a1, a2, a3, a4, L, a5, a6⟩ := h p e h1 h2 h3 s m args below h4 h5 h6 h7
  refine ⟨n, o, a1, a2, a3, ⟨a4, fun q c hc => ?_⟩, L, a5, a6⟩
  obtain ⟨-, -, -, -, -, -, -, b⟩ := a5
  obtain ⟨c1, d1, -, d3, -⟩ := b q c hc
  exact ⟨c1, d1, d3⟩
theorem sumx_add {H H1 : Heap} {z : Nat} (hz : z ≤ H.size) (hs : SZx H H1) (hl : H.size ≤ H1.size) : sumx z H1 = sumx z H + sumx H.size H1 := by
  unfold sumx
  rw [List.map_drop, List.map_drop, List.map_drop]
  have e : H1.toList.map (·.slots.size) = H.toList.map (·.slots.size) ++ (H1.toList.map (·.slots.size)).drop H.size := by
    have e2 : (H1.toList.map (·.slots.size)).take H.size = H.toList.map (·.slots.size) := by
      apply List.ext_getElem?
      intro i
      rw [List.getElem?_take]
      by_cases hi : i < H.size
      · rw [if_pos hi]
        obtain ⟨c1, d1, d2⟩ := hs i H[i] (by simp [hi])
        rw [List.getElem?_map, List.getElem?_map]
        have x1 : H1.toList[i]? = some c1 := by rw [Array.getElem?_toList]; exact d1
        have x2 : H.toList[i]? = some H[i] := by rw [Array.getElem?_toList]; simp [hi]
        rw [x1, x2]
        show some c1.slots.size = some H[i].slots.size
        rw [d2]
      · rw [if_neg hi, List.getElem?_map]
        have x2 : H.toList[i]? = none := by rw [Array.getElem?_toList]; simp; omega
        rw [x2]; rfl
    have e3 := List.take_append_drop H.size (H1.toList.map (·.slots.size))
    rw [e2] at e3
    exact e3.symm
  have e4 : (H1.toList.map (·.slots.size)).drop z = (H.toList.map (·.slots.size)).drop z ++ (H1.toList.map (·.slots.size)).drop H.size := by
    calc (H1.toList.map (·.slots.size)).drop z = (H.toList.map (·.slots.size) ++ (H1.toList.map (·.slots.size)).drop H.size).drop z := by rw [← e]
      _ = _ := List.drop_append_of_le_length (by simpa using hz)
  rw [e4, List.sum_append]
def QGv (post : GU × Nat → Prop) (G : va_G) (cy : Nat → ClassId) (n : Nat) (A : Nat → Prop) : Array Value → State → Outcome → State → Prop := fun _ st oc t => (∃ u : GU × Nat, oc = .returned none ∧ post u ∧ va_P G vwCl (GWx cy u.1) t.heap ∧ va_D A (GWx cy u.1) ∧ USx st.heap.size n u.2 t.heap) ∧ va_F A st t
def QGi (post : Int32 → GU × Nat → Prop) (G : va_G) (cy : Nat → ClassId) (n : Nat) (A : Nat → Prop) : Array Value → State → Outcome → State → Prop := fun _ st oc t => (∃ (r : Int32) (u : GU × Nat), oc = .returned (some (.int r)) ∧ post r u ∧ va_P G vwCl (GWx cy u.1) t.heap ∧ va_D A (GWx cy u.1) ∧ USx st.heap.size n u.2 t.heap) ∧ va_F A st t
def QGl (post : Int64 → GU × Nat → Prop) (G : va_G) (cy : Nat → ClassId) (n : Nat) (A : Nat → Prop) : Array Value → State → Outcome → State → Prop := fun _ st oc t => (∃ (r : Int64) (u : GU × Nat), oc = .returned (some (.long r)) ∧ post r u ∧ va_P G vwCl (GWx cy u.1) t.heap ∧ va_D A (GWx cy u.1) ∧ USx st.heap.size n u.2 t.heap) ∧ va_F A st t
section KG
variable {p : Program} {l : Launch} {e : Env} {R : Room} {s : State} {m : MethodId} {args : Array Value} {below : List Frame} {meth : Method} {c : Code} {H : Heap} {locs : List Loc} {cells slots mc ms n : Nat} {Q : State → Prop} {cc : ByteArray} {pc : Nat} {ls : Array Slot} {rest st0 : List Value} {G : va_G} {cy : Nat → ClassId} {ws : va_W} {A : Nat → Prop} {H0 : Heap} {T T1 : State} {L : List Loc}
theorem stand_tight {n1 : Nat} (X : Stand p l e R s m args below meth c T locs cells slots) (X1 : Stand p l e R s m args below meth c T1 L (cells + mc) (slots + ms)) (hZ : SZx T.heap T1.heap) (hl : T.heap.size ≤ T1.heap.size) (hU : USx T.heap.size n n1 T1.heap) : Stand p l e R s m args below meth c T1 L (cells + (n1 - n)) (slots + 14 * (n1 - n)) := by
  obtain ⟨a1, a2, a3, a4, a5, a6⟩ := X.same
  obtain ⟨b1, b2, b3, b4, b5, b6⟩ := X1.same
  have a2' : s.heap.size ≤ T.heap.size := a2
  have a3' : T.heap.size ≤ s.heap.size + cells := a3
  have a5' : sumx s.heap.size T.heap ≤ slots := a5
  have e := sumx_add a2' hZ hl
  obtain ⟨u1, u2⟩ := hU
  refine { X1 with same := ⟨b1, b2, ?_, b4, ?_, b6⟩ }
  · show T1.heap.size ≤ s.heap.size + (cells + (n1 - n))
    omega
  · show sumx s.heap.size T1.heap ≤ slots + 14 * (n1 - n)
    omega
theorem kg_v {post : GU × Nat → Prop} {av : Array Value} (hw : va_P G vwCl ws H ∧ va_D A ws) (hS : va_S A H0 H locs) (hA : ∀ q, H0.size ≤ q → A q)
    (hr : va_Run p l e R s m args below meth c H locs cells slots mc ms (F0 m pc ls st0) rest (fun st oc t => QGv post G cy n (va_A ws H.size) av st oc t ∧ SZx st.heap t.heap) (va_A ws H.size))
    (kk : ∀ (u : GU) (n1 : Nat) (H1 : Heap) (locs1 : List Loc), post (u, n1) → va_P G vwCl (GWx cy u) H1 ∧ va_D A (GWx cy u) → va_S A H0 H1 locs1 → W p l e R s m args below meth c H1 locs1 (cells + (n1 - n)) (slots + 14 * (n1 - n)) Q (F0 m (pc + 3) ls rest)) : W p l e R s m args below meth c H locs cells slots Q (F0 m pc ls st0) := by
  have hFc := free_all hw.2 hS hA
  intro T hT X
  obtain ⟨v, st₀, t, T', L, h0, X', hL, e1, e2, ⟨⟨⟨u, hv, hp, hP, hD, hU⟩, hz, hk⟩, hZ⟩, st⟩ := hr T hT X
  cases hv
  rw [h0] at hz hk hU hZ
  have X2 := stand_tight (n1 := u.2) X X' (by rw [hT, e1]; exact hZ) (by rw [hT, e1]; exact hz) (by rw [hT, e1]; exact hU)
  obtain ⟨t2, a1, b1⟩ := kk u.1 u.2 T'.heap (locs ++ L) hp ⟨by rw [e1]; exact hP, hD.weaken (fun _ q _ h => hFc q.1 h)⟩
    ⟨Nat.le_trans hS.1 (by rw [e1]; exact hz), fun q h1 h2 => by rw [e1, hk q (Nat.lt_of_lt_of_le h1 hS.1) (fun z => h2 (hFc q z))]; exact hS.2.1 q h1 h2, fun q hq => by
      rcases List.mem_append.mp hq with h | h
      · exact hS.2.2 q h
      · exact hFc _ (hL q h)⟩ T' rfl X2
  exact ⟨t2, st t2 a1, b1⟩
theorem kg_i {post : Int32 → GU × Nat → Prop} {av : Array Value} (hw : va_P G vwCl ws H ∧ va_D A ws) (hS : va_S A H0 H locs) (hA : ∀ q, H0.size ≤ q → A q)
    (hr : va_Run p l e R s m args below meth c H locs cells slots mc ms (F0 m pc ls st0) rest (fun st oc t => QGi post G cy n (va_A ws H.size) av st oc t ∧ SZx st.heap t.heap) (va_A ws H.size))
    (kk : ∀ (r : Int32) (u : GU) (n1 : Nat) (H1 : Heap) (locs1 : List Loc), post r (u, n1) → va_P G vwCl (GWx cy u) H1 ∧ va_D A (GWx cy u) → va_S A H0 H1 locs1 → W p l e R s m args below meth c H1 locs1 (cells + (n1 - n)) (slots + 14 * (n1 - n)) Q (F0 m (pc + 3) ls (.int r :: rest))) : W p l e R s m args below meth c H locs cells slots Q (F0 m pc ls st0) := by
  have hFc := free_all hw.2 hS hA
  intro T hT X
  obtain ⟨v, st₀, t, T', L, h0, X', hL, e1, e2, ⟨⟨⟨r, u, hv, hp, hP, hD, hU⟩, hz, hk⟩, hZ⟩, st⟩ := hr T hT X
  cases hv
  rw [h0] at hz hk hU hZ
  have X2 := stand_tight (n1 := u.2) X X' (by rw [hT, e1]; exact hZ) (by rw [hT, e1]; exact hz) (by rw [hT, e1]; exact hU)
  obtain ⟨t2, a1, b1⟩ := kk r u.1 u.2 T'.heap (locs ++ L) hp ⟨by rw [e1]; exact hP, hD.weaken (fun _ q _ h => hFc q.1 h)⟩
    ⟨Nat.le_trans hS.1 (by rw [e1]; exact hz), fun q h1 h2 => by rw [e1, hk q (Nat.lt_of_lt_of_le h1 hS.1) (fun z => h2 (hFc q z))]; exact hS.2.1 q h1 h2, fun q hq => by
      rcases List.mem_append.mp hq with h | h
      · exact hS.2.2 q h
      · exact hFc _ (hL q h)⟩ T' rfl X2
  exact ⟨t2, st t2 a1, b1⟩
theorem kg_l {post : Int64 → GU × Nat → Prop} {av : Array Value} (hw : va_P G vwCl ws H ∧ va_D A ws) (hS : va_S A H0 H locs) (hA : ∀ q, H0.size ≤ q → A q)
    (hr : va_Run p l e R s m args below meth c H locs cells slots mc ms (F0 m pc ls st0) rest (fun st oc t => QGl post G cy n (va_A ws H.size) av st oc t ∧ SZx st.heap t.heap) (va_A ws H.size))
    (kk : ∀ (r : Int64) (u : GU) (n1 : Nat) (H1 : Heap) (locs1 : List Loc), post r (u, n1) → va_P G vwCl (GWx cy u) H1 ∧ va_D A (GWx cy u) → va_S A H0 H1 locs1 → W p l e R s m args below meth c H1 locs1 (cells + (n1 - n)) (slots + 14 * (n1 - n)) Q (F0 m (pc + 3) ls (.long r :: rest))) : W p l e R s m args below meth c H locs cells slots Q (F0 m pc ls st0) := by
  have hFc := free_all hw.2 hS hA
  intro T hT X
  obtain ⟨v, st₀, t, T', L, h0, X', hL, e1, e2, ⟨⟨⟨r, u, hv, hp, hP, hD, hU⟩, hz, hk⟩, hZ⟩, st⟩ := hr T hT X
  cases hv
  rw [h0] at hz hk hU hZ
  have X2 := stand_tight (n1 := u.2) X X' (by rw [hT, e1]; exact hZ) (by rw [hT, e1]; exact hz) (by rw [hT, e1]; exact hU)
  obtain ⟨t2, a1, b1⟩ := kk r u.1 u.2 T'.heap (locs ++ L) hp ⟨by rw [e1]; exact hP, hD.weaken (fun _ q _ h => hFc q.1 h)⟩
    ⟨Nat.le_trans hS.1 (by rw [e1]; exact hz), fun q h1 h2 => by rw [e1, hk q (Nat.lt_of_lt_of_le h1 hS.1) (fun z => h2 (hFc q z))]; exact hS.2.1 q h1 h2, fun q hq => by
      rcases List.mem_append.mp hq with h | h
      · exact hS.2.2 q h
      · exact hFc _ (hL q h)⟩ T' rfl X2
  exact ⟨t2, st t2 a1, b1⟩
theorem us_of {n1 : Nat} (X : Stand p l e R s m args below meth c T locs cells slots) (hc : cells ≤ n1 - n) (hs : slots ≤ 14 * (n1 - n)) : USx s.heap.size n n1 T.heap := by
  obtain ⟨a1, a2, a3, a4, a5, a6⟩ := X.same
  have a3' : T.heap.size ≤ s.heap.size + cells := a3
  have a5' : sumx s.heap.size T.heap ≤ slots := a5
  exact ⟨by omega, by omega⟩
theorem kgz_v {post : GU × Nat → Prop} {k k1 : Nat} (hx : p.tables.exec = Jvm.exec) (hb : c.code = cc) (hr : meth.sig.returnType = none) (hlocks : meth.locks = false) (hS : va_S A s.heap H locs) (u : GU × Nat) (hw : va_P G vwCl (GWx cy u.1) H ∧ va_D A (GWx cy u.1)) (hp : post u) (hc : cells ≤ u.2 - n) (hs : slots ≤ 14 * (u.2 - n)) (h1 : cells ≤ k) (h2 : slots ≤ k1) (hdg : decode cc pc = .ok (.return_, 1)) : W p l e R s m args below meth c H locs cells slots (MQ below (QGv post G cy n A) args s k k1 A) (F0 m pc ls []) := by
  intro T hT X
  have hU := us_of X hc hs
  rw [hT] at hU
  exact W.widen h1 h2 (W.vret hx hb hr (fun t ht _ => ⟨⟨u, rfl, hp, by rw [ht]; exact hw.1, hw.2, by rw [ht]; exact hU⟩, hS.F ht⟩) hS.2.2 hdg hlocks) T hT X
theorem kgz_i {post : Int32 → GU × Nat → Prop} {k k1 : Nat} {v : Int32} {ty : FieldType} (hx : p.tables.exec = Jvm.exec) (hb : c.code = cc) (hr : meth.sig.returnType = some ty) (hlocks : meth.locks = false) (hS : va_S A s.heap H locs) (hv : narrow ty (.int v) = .int v) (u : GU × Nat) (hw : va_P G vwCl (GWx cy u.1) H ∧ va_D A (GWx cy u.1)) (hp : post v u) (hc : cells ≤ u.2 - n) (hs : slots ≤ 14 * (u.2 - n)) (h1 : cells ≤ k) (h2 : slots ≤ k1) (hdg : decode cc pc = .ok (.ireturn, 1)) : W p l e R s m args below meth c H locs cells slots (MQ below (QGi post G cy n A) args s k k1 A) (F0 m pc ls [.int v]) := by
  intro T hT X
  have hU := us_of X hc hs
  rw [hT] at hU
  exact W.widen h1 h2 (W.zret hx hb hr hv (fun t ht _ => ⟨⟨v, u, rfl, hp, by rw [ht]; exact hw.1, hw.2, by rw [ht]; exact hU⟩, hS.F ht⟩) hS.2.2 hdg hlocks) T hT X
theorem kgz_l {post : Int64 → GU × Nat → Prop} {k k1 : Nat} {v : Int64} (hx : p.tables.exec = Jvm.exec) (hb : c.code = cc) (hr : meth.sig.returnType = some .long) (hlocks : meth.locks = false) (hS : va_S A s.heap H locs) (u : GU × Nat) (hw : va_P G vwCl (GWx cy u.1) H ∧ va_D A (GWx cy u.1)) (hp : post v u) (hc : cells ≤ u.2 - n) (hs : slots ≤ 14 * (u.2 - n)) (h1 : cells ≤ k) (h2 : slots ≤ k1) (hdg : decode cc pc = .ok (.lreturn, 1)) : W p l e R s m args below meth c H locs cells slots (MQ below (QGl post G cy n A) args s k k1 A) (F0 m pc ls [.long v]) := by
  intro T hT X
  have hU := us_of X hc hs
  rw [hT] at hU
  exact W.widen h1 h2 (W.lret hx hb hr (fun t ht _ => ⟨⟨v, u, rfl, hp, by rw [ht]; exact hw.1, hw.2, by rw [ht]; exact hU⟩, hS.F ht⟩) hS.2.2 hdg hlocks) T hT X
/-- a call that makes a row and gives it back -/
theorem kg_r {post : GU → Prop} {P1 : GU → Nat → Prop} {av : Array Value} (hw : va_P G vwCl ws H ∧ va_D A ws) (hS : va_S A H0 H locs) (hA : ∀ q, H0.size ≤ q → A q)
    (hr : va_Run p l e R s m args below meth c H locs cells slots mc ms (F0 m pc ls st0) rest (va_Qr post (fun u a t => P1 u a ∧ va_P G vwCl (GWx cy u) t.heap ∧ va_D (va_A ws H.size) (GWx cy u)) (va_A ws H.size) av) (va_A ws H.size))
    (kk : ∀ (u : GU) (ra : Nat) (H1 : Heap) (locs1 : List Loc), P1 u ra → va_P G vwCl (GWx cy u) H1 ∧ va_D A (GWx cy u) → va_S A H0 H1 locs1 → W p l e R s m args below meth c H1 locs1 (cells + mc) (slots + ms) Q (F0 m (pc + 3) ls (.ref ra :: rest))) : W p l e R s m args below meth c H locs cells slots Q (F0 m pc ls st0) := by
  have hFc := free_all hw.2 hS hA
  refine va_callr hr hS (fun q _ h => hFc q h) hFc (fun u ra t H1 locs1 ht hvm hw2 hB hz1 hk1 hS1 => ?_)
  obtain ⟨hp, hP1, hD1⟩ := hB
  rw [ht] at hP1
  exact kk u ra H1 locs1 hp ⟨hP1, hD1.weaken (fun _ q _ h => hFc q.1 h)⟩ hS1
theorem kgz_r {P1 : GU → Nat → Prop} {k k1 : Nat} {ra : Nat} {ty : FieldType} (hx : p.tables.exec = Jvm.exec) (hb : c.code = cc) (hr : meth.sig.returnType = some (.array ty)) (hlocks : meth.locks = false) (hS : va_S A s.heap H locs) (u : GU) (hw : va_P G vwCl (GWx cy u) H ∧ va_D A (GWx cy u)) (hp : P1 u ra) (h1 : cells ≤ k) (h2 : slots ≤ k1) (hdg : decode cc pc = .ok (.areturn, 1)) : W p l e R s m args below meth c H locs cells slots (MQ below (va_Qr (fun _ : GU => True) (fun u a t => P1 u a ∧ va_P G vwCl (GWx cy u) t.heap ∧ va_D A (GWx cy u)) A) args s k k1 A) (F0 m pc ls [.ref ra]) :=
  W.widen h1 h2 (W.aret hx hb hr (Or.inr ⟨_, rfl⟩) (Or.inr ⟨_, rfl⟩) (fun t ht _ => ⟨⟨u, ra, rfl, trivial, hp, by rw [ht]; exact hw.1, hw.2⟩, hS.F ht⟩) hS.2.2 hdg hlocks)
end KG
