-- explicit cells before a pool that is not yet whole; cells go into the pool many at a time
def cellE (cy : Nat → ClassId) (k N : Nat) (r : Nat → Value) : va_E := cellOf cy (fun _ => k) (fun _ => N) (fun _ => r) 0
abbrev SpE : Type := Nat × Nat × Nat × (Nat → Value)
def ceE (cy : Nat → ClassId) (z : SpE) : Nat × va_E := (z.1, cellE cy z.2.1 z.2.2.1 z.2.2.2)
def OkW (K : Nat → Nat) (h : Nat → Nat → Value) : Prop := ∀ a j, K a ≠ 0 → (K a < 20 → j < nf (K a)) → okc K (cd (K a) j) (h a j)
def PLW (cy : Nat → ClassId) (K ln : Nat → Nat) (h : Nat → Nat → Value) (pl : va_W) : Prop := ∃ Ls : List Nat, pl = va_pl Ls (cellOf cy K ln h) ∧ SW K ln Ls ∧ OkW K h
def KSp (K : Nat → Nat) : List SpE → Prop
  | [] => True
  | z :: Sp => K z.1 = z.2.1 ∧ KSp K Sp
def OKp (K : Nat → Nat) : List SpE → Prop
  | [] => True
  | z :: Sp => (∀ j, (z.2.1 < 20 → j < nf z.2.1) → okc K (cd z.2.1 j) (z.2.2.2 j)) ∧ OKp K Sp
def okSp (Sp : List SpE) : Bool := Sp.all (fun z => z.2.1 != 0 && (lk z.2.1 == 0 || z.2.2.1 == lk z.2.1))
def noSp (k : Nat) (Sp : List SpE) : Bool := Sp.all (fun z => z.2.1 != k)
def ABS (K ln : Nat → Nat) (h : Nat → Nat → Value) (K1 ln1 : Nat → Nat) (h1 : Nat → Nat → Value) (Sp : List SpE) : Prop := (∀ a, K a ≠ 0 → K1 a = K a ∧ ln1 a = ln a ∧ h1 a = h a) ∧ (∀ z ∈ Sp, K1 z.1 = z.2.1 ∧ ln1 z.1 = z.2.2.1 ∧ h1 z.1 = z.2.2.2) ∧ (∀ a, K1 a ≠ 0 → K a ≠ 0 ∨ ∃ z ∈ Sp, a = z.1)
theorem okSp_of {kn : List (Nat × Nat)} : ∀ {Sp : List SpE}, Sp.map (fun z => (z.2.1, z.2.2.1)) = kn → kn.all (fun z => z.1 != 0 && (lk z.1 == 0 || z.2 == lk z.1)) = true → okSp Sp = true := by
  intro Sp e h
  subst e
  rw [List.all_map] at h
  exact h
theorem noSp_of {k : Nat} {kn : List (Nat × Nat)} : ∀ {Sp : List SpE}, Sp.map (fun z => (z.2.1, z.2.2.1)) = kn → kn.all (fun z => z.1 != k) = true → noSp k Sp = true := by
  intro Sp e h
  subst e
  rw [List.all_map] at h
  exact h
theorem KSp_of {K : Nat → Nat} : ∀ {Sp : List SpE}, (∀ z ∈ Sp, K z.1 = z.2.1) → KSp K Sp
  | [], _ => trivial
  | z :: _, hz => ⟨hz z List.mem_cons_self, KSp_of (fun y hy => hz y (List.mem_cons_of_mem _ hy))⟩
theorem OKp_at {K : Nat → Nat} : ∀ {Sp : List SpE}, OKp K Sp → ∀ z ∈ Sp, ∀ j, (z.2.1 < 20 → j < nf z.2.1) → okc K (cd z.2.1 j) (z.2.2.2 j)
  | _ :: _, ho, z, hz => by
    rcases List.mem_cons.mp hz with e | e
    · subst e; exact ho.1
    · exact OKp_at ho.2 z e
theorem ABS.kd {K ln : Nat → Nat} {h : Nat → Nat → Value} {K1 ln1 : Nat → Nat} {h1 : Nat → Nat → Value} {Sp : List SpE} {a k : Nat} (ab : ABS K ln h K1 ln1 h1 Sp) (hk : K a = k) (h0 : k ≠ 0) : K1 a = k := ((ab.1 a (by rw [hk]; exact h0)).1).trans hk
theorem ABS.no {K ln : Nat → Nat} {h : Nat → Nat → Value} {K1 ln1 : Nat → Nat} {h1 : Nat → Nat → Value} {Sp : List SpE} {k : Nat} (ab : ABS K ln h K1 ln1 h1 Sp) (hs : noSp k Sp = true) (hk0 : k ≠ 0) : ∀ a, K1 a = k → K a = k := by
  intro a ha
  rcases ab.2.2 a (by rw [ha]; exact hk0) with x | ⟨z, hz, e⟩
  · rw [← (ab.1 a x).1]; exact ha
  · subst e
    have h1 := List.all_eq_true.mp hs z hz
    rw [(ab.2.1 z hz).1] at ha
    rw [ha] at h1
    simp at h1
section ABSALL
variable {G : va_G} {cy : Nat → ClassId} {A : Nat → Prop} {H : Heap} {E : va_W}
theorem abs_all : ∀ (Sp : List SpE) (K ln : Nat → Nat) (Ls : List Nat) (h : Nat → Nat → Value), va_P G vwCl ((E ++ Sp.map (ceE cy)) ++ va_pl Ls (cellOf cy K ln h)) H → va_D A ((E ++ Sp.map (ceE cy)) ++ va_pl Ls (cellOf cy K ln h)) → SW K ln Ls → okSp Sp = true → ∃ (K1 ln1 : Nat → Nat) (Ls1 : List Nat) (h1 : Nat → Nat → Value), va_P G vwCl (E ++ va_pl Ls1 (cellOf cy K1 ln1 h1)) H ∧ va_D A (E ++ va_pl Ls1 (cellOf cy K1 ln1 h1)) ∧ SW K1 ln1 Ls1 ∧ ABS K ln h K1 ln1 h1 Sp
  | [], K, ln, Ls, h, hP, hD, hW, _ => by
    rw [List.map_nil, List.append_nil] at hP hD
    exact ⟨K, ln, Ls, h, hP, hD, hW, fun _ _ => ⟨rfl, rfl, rfl⟩, fun z hz => (by cases hz), fun _ ha => Or.inl ha⟩
  | (q, k, N, r) :: Sp, K, ln, Ls, h, hP, hD, hW, hs => by
    have hs' : (k != 0 && (lk k == 0 || N == lk k)) = true ∧ okSp Sp = true := by
      have := hs
      unfold okSp at this
      rw [List.all_cons, Bool.and_eq_true] at this
      exact this
    obtain ⟨hs1, hs2⟩ := hs'
    rw [Bool.and_eq_true] at hs1
    have hk0 : k ≠ 0 := by have := hs1.1; simpa using this
    have hlk : lk k ≠ 0 → N = lk k := by
      intro x
      have := hs1.2
      rw [Bool.or_eq_true] at this
      rcases this with y | y
      · exact absurd (by simpa using y) x
      · simpa using y
    rw [List.map_cons] at hP hD
    have e1 : (E ++ ceE cy (q, k, N, r) :: Sp.map (ceE cy)) ++ va_pl Ls (cellOf cy K ln h) = (E ++ [ceE cy (q, k, N, r)]) ++ (Sp.map (ceE cy) ++ va_pl Ls (cellOf cy K ln h)) := by simp
    have e2 : (E ++ (Sp.map (ceE cy) ++ va_pl Ls (cellOf cy K ln h))) ++ [ceE cy (q, k, N, r)] = (E ++ Sp.map (ceE cy)) ++ (va_pl Ls (cellOf cy K ln h) ++ [ceE cy (q, k, N, r)]) := by simp
    rw [e1] at hP hD
    have hP := hP.swap
    have hD := hD.swap
    rw [e2] at hP hD
    have hD2 : va_D A (va_pl Ls (cellOf cy K ln h) ++ [(q, cellE cy k N r)]) := by
      refine hD.by (fun i => (E ++ Sp.map (ceE cy)).length + i) (fun i z hz => ?_) (fun i j _ _ e => by omega)
      rw [List.getElem?_append_right (Nat.le_add_right _ _), Nat.add_sub_cancel_left]
      exact hz
    have hn := pool_new hD2
    have hK : K q = 0 := by
      by_cases z : K q = 0
      · exact z
      · exact absurd (hW.1 q z) hn
    have hne : ∀ a, K a ≠ 0 → a ≠ q := fun a ha e => ha (by rw [e]; exact hK)
    have he : cellOf cy (upNx K q k) (upNx ln q N) (rowF h q r) q = cellE cy k N r := by
      unfold cellE cellOf
      rw [upNx_s, upNx_s, rowF_s]
    have ec : va_pl Ls (cellOf cy K ln h) ++ [ceE cy (q, k, N, r)] = va_pl (Ls ++ [q]) (cellOf cy (upNx K q k) (upNx ln q N) (rowF h q r)) := by
      show va_pl Ls (cellOf cy K ln h) ++ [(q, cellE cy k N r)] = _
      rw [va_pl_push hn]
      refine va_pl_congr (fun b => ?_)
      by_cases eb : b = q
      · subst eb
        rw [he]; simp [va_up]
      · have : cellOf cy (upNx K q k) (upNx ln q N) (rowF h q r) b = cellOf cy K ln h b := by
          unfold cellOf
          rw [upNx_n eb, upNx_n eb, rowF_n eb]
        rw [this]; simp [va_up, eb]
    rw [ec] at hP hD
    have hW1 : SW (upNx K q k) (upNx ln q N) (Ls ++ [q]) := by
      refine ⟨fun a ha => ?_, fun a ha => ?_⟩
      · by_cases ea : a = q
        · rw [ea]; exact List.mem_append_right _ (List.mem_singleton.mpr rfl)
        · rw [upNx_n ea] at ha
          exact List.mem_append_left _ (hW.1 a ha)
      · by_cases ea : a = q
        · rw [ea, upNx_s] at ha ⊢
          rw [upNx_s, hlk ha]
        · rw [upNx_n ea] at ha ⊢
          rw [upNx_n ea]
          exact hW.2 a ha
    obtain ⟨K1, ln1, Ls1, h1, g1, g2, g3, g4, g5, g6⟩ := abs_all Sp _ _ _ _ hP hD hW1 hs2
    refine ⟨K1, ln1, Ls1, h1, g1, g2, g3, fun a ha => ?_, fun z hz => ?_, fun a ha => ?_⟩
    · have := g4 a (by rw [upNx_n (hne a ha)]; exact ha)
      rw [upNx_n (hne a ha), upNx_n (hne a ha), rowF_n (hne a ha)] at this
      exact this
    · rcases List.mem_cons.mp hz with e | e
      · subst e
        have := g4 q (by rw [upNx_s]; exact hk0)
        rw [upNx_s, upNx_s, rowF_s] at this
        exact this
      · exact g5 z e
    · rcases g6 a ha with x | ⟨z, hz, e⟩
      · by_cases ea : a = q
        · exact Or.inr ⟨(q, k, N, r), List.mem_cons_self, ea⟩
        · rw [upNx_n ea] at x
          exact Or.inl x
      · exact Or.inr ⟨z, List.mem_cons_of_mem _ hz, e⟩
theorem absorb {X : va_W} {Sp : List SpE} {pl : va_W} {K ln : Nat → Nat} {h : Nat → Nat → Value} (is : List Nat) (hC : is.map (fun i => X[i]?) = (E ++ Sp.map (ceE cy)).map some) (hn : va_nd is = true) (hP : va_P G vwCl (X ++ pl) H) (hD : va_D A (X ++ pl)) (hpl : PLW cy K ln h pl) (hs : okSp Sp = true) (ho : ∀ K1 : Nat → Nat, (∀ a, K a ≠ 0 → K1 a = K a) → KSp K1 Sp → OKp K1 Sp) : ∃ (K1 ln1 : Nat → Nat) (h1 : Nat → Nat → Value) (pl1 : va_W), va_P G vwCl (E ++ pl1) H ∧ va_D A (E ++ pl1) ∧ PLW cy K1 ln1 h1 pl1 ∧ ABS K ln h K1 ln1 h1 Sp ∧ OkW K h ∧ KSp K1 Sp := by
  obtain ⟨Ls, rfl, hW, ok⟩ := hpl
  have hP1 : va_P G vwCl ((E ++ Sp.map (ceE cy)) ++ va_pl Ls (cellOf cy K ln h)) H := fun k q hq => hP _ q (va_part is hC k q hq)
  have hD1 := hD.part is hn hC
  obtain ⟨K1, ln1, Ls1, h1, g1, g2, g3, ab⟩ := abs_all Sp K ln Ls h hP1 hD1 hW hs
  have hk := KSp_of (fun z hz => (ab.2.1 z hz).1)
  have hx : ∀ a, K a ≠ 0 → K1 a = K a := fun a ha => (ab.1 a ha).1
  have hok := ho K1 hx hk
  refine ⟨K1, ln1, h1, _, g1, g2, ⟨Ls1, rfl, g3, fun a j ha hj => ?_⟩, ab, ok, hk⟩
  rcases ab.2.2 a ha with x | ⟨z, hz, e⟩
  · obtain ⟨y1, y2, y3⟩ := ab.1 a x
    rw [y1] at hj ⊢
    rw [y3]
    exact okc_mono hx (ok a j x hj)
  · subst e
    obtain ⟨y1, y2, y3⟩ := ab.2.1 z hz
    rw [y1] at hj ⊢
    rw [y3]
    exact OKp_at hok z hz j hj
end ABSALL
def okF (K : Nat → Nat) : Nat → List Value → Prop
  | _, [] => True
  | c, v :: fs => okc K c v ∧ okF K (c + 1) fs
theorem okF_n {K : Nat → Nat} {c : Nat} : okF K c [] := trivial
theorem okF_c {K : Nat → Nat} {c : Nat} {v : Value} {fs : List Value} (h1 : okc K c v) (h2 : okF K (c + 1) fs) : okF K c (v :: fs) := ⟨h1, h2⟩
theorem OKp_n {K : Nat → Nat} : OKp K [] := trivial
theorem OKp_c {K : Nat → Nat} {q k N : Nat} {r : Nat → Value} {Sp : List SpE} (h1 : ∀ j, (k < 20 → j < nf k) → okc K (cd k j) (r j)) (h2 : OKp K Sp) : OKp K ((q, k, N, r) :: Sp) := ⟨h1, h2⟩
theorem okF_at {K : Nat → Nat} : ∀ {fs : List Value} {c : Nat}, okF K c fs → ∀ j, j < fs.length → okc K (c + j) (fs.getD j (.int 0))
  | _ :: _, c, ho, 0, _ => by simpa using ho.1
  | _ :: fs, c, ho, j + 1, hj => by
    have := okF_at ho.2 j (by simpa using hj)
    rw [Nat.add_assoc, Nat.add_comm 1 j] at this
    simpa using this
theorem ok_obj {K : Nat → Nat} {k : Nat} {fs : List Value} (hk : k < 20) (hl : nf k = fs.length) (hf : okF K (k * 1000) fs) : ∀ j, (k < 20 → j < nf k) → okc K (cd k j) (fs.getD j (.int 0)) := fun j hj => by
  rw [cd_o hk]
  exact okF_at hf j (by rw [← hl]; exact hj hk)
theorem ok_arr {K : Nat → Nat} {k : Nat} {v : Value} (hk : ¬ k < 20) (hv : okc K (k * 1000) v) : ∀ j, (k < 20 → j < nf k) → okc K (cd k j) v := fun j _ => by
  rw [cd_a hk]
  exact hv
theorem ok_row {K : Nat → Nat} {k : Nat} {r : Nat → Value} (hk : ¬ k < 20) (hv : ∀ j, okc K (k * 1000) (r j)) : ∀ j, (k < 20 → j < nf k) → okc K (cd k j) (r j) := fun j _ => by
  rw [cd_a hk]
  exact hv j
theorem kup {K K1 : Nat → Nat} {a k : Nat} (ex : ∀ a, K a ≠ 0 → K1 a = K a) (hk : K a = k) (h0 : k ≠ 0) : K1 a = k := (ex a (by rw [hk]; exact h0)).trans hk
-- calls over some of the explicit cells
section KP
variable {p : Program} {l : Launch} {e : Env} {R : Room} {s : State} {m : MethodId} {args : Array Value} {below : List Frame} {meth : Method} {c : Code} {H : Heap} {locs : List Loc} {cells slots mc ms : Nat} {Q : State → Prop} {cc : ByteArray} {pc : Nat} {ls : Array Slot} {rest st0 : List Value} {G : va_G} {cy : Nat → ClassId} {X W1 wr pl : va_W} {A : Nat → Prop} {H0 : Heap}
theorem kcp_v {S : Type} {post : S → Prop} {W2 : S → va_W} {av : Array Value} (is rs : List Nat) (hC : is.map (fun i => X[i]?) = W1.map some) (hR : rs.map (fun i => X[i]?) = wr.map some) (hn : va_nd rs = true) (hdis : ∀ i ∈ rs, i ∉ is) (hP : va_P G vwCl (X ++ pl) H) (hD : va_D A (X ++ pl)) (hS : va_S A H0 H locs) (hA : ∀ q, H0.size ≤ q → A q)
    (hr : va_Run p l e R s m args below meth c H locs cells slots mc ms (F0 m pc ls st0) rest (QBv post G W2 (va_A W1 H.size) av) (va_A W1 H.size))
    (kk : ∀ (u : S) (H1 : Heap) (locs1 : List Loc), post u → va_P G vwCl ((wr ++ W2 u) ++ pl) H1 → va_D A ((wr ++ W2 u) ++ pl) → va_S A H0 H1 locs1 → W p l e R s m args below meth c H1 locs1 (cells + mc) (slots + ms) Q (F0 m (pc + 3) ls rest)) : W p l e R s m args below meth c H locs cells slots Q (F0 m pc ls st0) := by
  have hFp := va_freeP (cx := W1) hD hS hA is hC
  have hFc : ∀ q, va_A W1 H.size q → A q := fun q h => hFp q (by
    rcases h with ⟨k, e, h⟩ | h
    · exact Or.inl ⟨k, e, by rw [List.getElem?_append_left (List.getElem?_eq_some_iff.mp h).1]; exact h⟩
    · exact Or.inr h)
  refine va_callv hr hS (fun q _ h => hFc q h) hFc (fun u t H1 locs1 ht hvm hw hB hz1 hk1 hS1 => ?_)
  obtain ⟨hP1, hD1⟩ := hB
  rw [ht] at hP1
  obtain ⟨hP2, hD2⟩ := va_joinQ (wr := wr) (w1 := W2 u) hP hD is rs hC hR hn hdis hk1 hFc hP1 hD1
  exact kk u H1 locs1 hw hP2 hD2 hS1
theorem krp_v {S : Type} {post : S → Prop} {W2 : S → va_W} {k n : Nat} (hx : p.tables.exec = Jvm.exec) (hb : c.code = cc) (hr : meth.sig.returnType = none) (hlocks : meth.locks = false) (u : S) (hw : post u) (hP : va_P G vwCl (W2 u) H) (hD : va_D A (W2 u)) (hS : va_S A s.heap H locs) (h1 : cells ≤ k) (h2 : slots ≤ n) (hdg : decode cc pc = .ok (.return_, 1)) : W p l e R s m args below meth c H locs cells slots (MQ below (QBv post G W2 A) args s k n A) (F0 m pc ls []) :=
  W.widen h1 h2 (W.vret hx hb hr (fun t ht _ => ⟨⟨u, rfl, hw, by rw [ht]; exact hP, hD⟩, hS.F ht⟩) hS.2.2 hdg hlocks)
end KP
-- rows of references
def vO : Option Nat → Value
  | some b => .ref b
  | none => .null
theorem vR_vO (o : Option Nat) : vR (vO o) = o := by cases o <;> rfl
def rowO (f : Nat → Option Nat) (n : Nat) : Nat → Value := fun j => vO (f (if j < n then j else 0))
theorem rowO_f {f : Nat → Option Nat} {n j : Nat} (hj : j < n) : vR (rowO f n j) = f j := by
  unfold rowO
  rw [if_pos hj, vR_vO]
def PAx (K : Nat → Nat) (k : Nat) (f : Nat → Option Nat) (i : Nat) : Prop := ∀ j, j < i → ∃ b, f j = some b ∧ K b = k
theorem PAx.up {K : Nat → Nat} {k i q : Nat} {f f1 : Nat → Option Nat} (P : PAx K k f i) (hf : f1 = va_up f i (some q)) (hq : K q = k) : PAx K k f1 (i + 1) := by
  intro j hj
  subst hf
  by_cases e : j = i
  · exact ⟨q, by simp [va_up, e], hq⟩
  · obtain ⟨b, hb, kb⟩ := P j (by omega)
    exact ⟨b, by simp [va_up, e, hb], kb⟩
theorem PAx.ex {K K1 : Nat → Nat} {k i : Nat} {f : Nat → Option Nat} (P : PAx K k f i) (ex : ∀ a, K a ≠ 0 → K1 a = K a) (h0 : k ≠ 0) : PAx K1 k f i := fun j hj => by
  obtain ⟨b, hb, kb⟩ := P j hj
  exact ⟨b, hb, kup ex kb h0⟩
theorem PAx.row {K : Nat → Nat} {k n : Nat} {f : Nat → Option Nat} (P : PAx K k f n) (h0 : 0 < n) (j : Nat) : ∃ b, rowO f n j = .ref b ∧ K b = k := by
  unfold rowO
  obtain ⟨b, hb, kb⟩ := P (if j < n then j else 0) (by by_cases e : j < n <;> simp [e, h0])
  exact ⟨b, by rw [hb]; rfl, kb⟩
theorem okc_rr {K : Nat → Nat} {cq k : Nat} {v : Value} (h1 : tabL.contains cq = false) (h2 : tabR.lookup cq = some k) (h : ∃ b, v = .ref b ∧ K b = k) : okc K cq v := by
  obtain ⟨b, rfl, hb⟩ := h
  exact okc_r' h1 h2 hb
theorem arrV_congr {cA : ClassId} {n : Nat} {f g : Nat → Value} (h : ∀ j, j < n → f j = g j) : arrV cA n f = arrV cA n g := by
  have e : (fun j : Fin n => f j.val) = fun j : Fin n => g j.val := funext fun j => h j.val j.isLt
  unfold arrV
  rw [e]
theorem PD_ref {G : va_G} {A : Nat → Prop} {ws : va_W} {H : Heap} {a n : Nat} {cA : ClassId} {f g : Nat → Option Nat} (i : Nat) (hi : ws[i]? = some (a, .inl (cA, n, .inr (.inr (.inr (.inr f)))))) (hg : ∀ j, j < n → g j = f j) (hP : va_P G vwCl ws H) (hD : va_D A ws) : va_P G vwCl (ws.set i (a, .inl (cA, n, .inr (.inr (.inr (.inr g)))))) H ∧ va_D A (ws.set i (a, .inl (cA, n, .inr (.inr (.inr (.inr g)))))) := by
  refine ⟨fun k q hq => ?_, hD.set hi⟩
  by_cases e : k = i
  · subst e
    have hl := (List.getElem?_eq_some_iff.mp hi).1
    rw [List.getElem?_set_self hl] at hq
    cases hq
    have := hP k _ hi
    show H[a]? = some (vp_cell cA (n, .inr (.inr (.inr (.inr g)))))
    have h2 : H[a]? = some (vp_cell cA (n, .inr (.inr (.inr (.inr f))))) := this
    rw [h2]
    show some (arrV cA n (fun j => va_rf (f j))) = some (arrV cA n (fun j => va_rf (g j)))
    exact congrArg some (arrV_congr (fun j hj => by rw [hg j hj]))
  · rw [List.getElem?_set_ne (Ne.symm e)] at hq
    exact hP k q hq
-- what is known of the nodes stays
theorem NSx_abs {K ln : Nat → Nat} {h : Nat → Nat → Value} {K1 ln1 : Nat → Nat} {h1 : Nat → Nat → Value} {Sp : List SpE} {n : Nat} (ok : OkW K h) (ab : ABS K ln h K1 ln1 h1 Sp) (hs : noSp 4 Sp = true) (N : NSx K ln h n) : NSx K1 ln1 h1 n := by
  have no := ab.no hs (by decide)
  refine ⟨N.1, fun a b ha hb => N.2.1 a b (no a ha) (no b hb), fun a ha => ?_⟩
  have ka := no a ha
  obtain ⟨x1, x2, x3⟩ := ab.1 a (by rw [ka]; decide)
  obtain ⟨n1, n2, n3⟩ := N.2.2 a ka
  have rf : ∀ f b, f < 6 → h a f = .ref b → K b ≠ 0 := by
    intro f b hf e
    have := ok a f (by rw [ka]; decide) (by rw [ka]; intro _; exact Nat.lt_of_lt_of_le hf (by decide))
    rw [ka, e] at this
    have hc : cd 4 f = 4000 + f := cd_o (by decide)
    rw [hc] at this
    have tl : tabL.contains (4000 + f) = false ∧ ∃ k, tabR.lookup (4000 + f) = some k ∧ k ≠ 0 := by
      rcases f with _ | _ | _ | _ | _ | _ | f
      · exact ⟨by decide, 28, by decide, by decide⟩
      · exact ⟨by decide, 29, by decide, by decide⟩
      · exact ⟨by decide, 30, by decide, by decide⟩
      · exact ⟨by decide, 31, by decide, by decide⟩
      · exact ⟨by decide, 32, by decide, by decide⟩
      · exact ⟨by decide, 33, by decide, by decide⟩
      · omega
    obtain ⟨t1, k, t2, t3⟩ := tl
    obtain ⟨b2, e2, kb⟩ := okc_r t1 t2 this
    cases e2
    rw [kb]
    exact t3
  refine ⟨fun f b hf e => ?_, fun b e => ?_, ?_⟩
  · rw [x3] at e
    rw [(ab.1 b (rf f b (by omega) e)).2.1]
    exact n1 f b hf e
  · rw [x3] at e
    obtain ⟨y1, y2, y3⟩ := ab.1 b (rf 5 b (by decide) e)
    rw [y2, y3]
    exact n2 b e
  · unfold gi at n3 ⊢
    rw [x3]
    exact n3
theorem NSx_new {K ln : Nat → Nat} {h : Nat → Nat → Value} {K1 ln1 : Nat → Nat} {h1 : Nat → Nat → Value} {Sp : List SpE} {a b0 b1 b2 b3 b4 b5 : Nat} {ra : Nat → Value} (no : ∀ a, K a ≠ 4) (ab : ABS K ln h K1 ln1 h1 Sp) (uq : ∀ z ∈ Sp, z.2.1 = 4 → z.1 = a) (m : (a, 4, 4, ra) ∈ Sp) (m0 : (b0, 28, 256, fun _ => .int 0) ∈ Sp) (m1 : (b1, 29, 256, fun _ => .int 0) ∈ Sp) (m2 : (b2, 30, 256, fun _ => .int 0) ∈ Sp) (m3 : (b3, 31, 256, fun _ => .int 0) ∈ Sp) (m4 : (b4, 32, 256, fun _ => .long 0) ∈ Sp) (m5 : (b5, 33, 512, fun _ => .int 0) ∈ Sp) (e0 : ra 0 = .ref b0) (e1 : ra 1 = .ref b1) (e2 : ra 2 = .ref b2) (e3 : ra 3 = .ref b3) (e4 : ra 4 = .ref b4) (e5 : ra 5 = .ref b5) (e6 : ra 6 = .int 0) : NSx K1 ln1 h1 256 := by
  have key : ∀ x, K1 x = 4 → x = a := by
    intro x hx
    rcases ab.2.2 x (by rw [hx]; decide) with y | ⟨z, hz, e⟩
    · exact absurd ((ab.1 x y).1.symm.trans hx) (no x)
    · rw [e] at hx ⊢
      exact uq z hz ((ab.2.1 z hz).1.symm.trans hx)
  refine ⟨by decide, fun x y hx hy => (key x hx).trans (key y hy).symm, fun x hx => ?_⟩
  have ex := key x hx
  subst ex
  have hr := (ab.2.1 _ m).2.2
  have hr : h1 x = ra := hr
  refine ⟨fun f b hf e => ?_, fun b e => ?_, ?_⟩
  · rw [hr] at e
    rcases f with _ | _ | _ | _ | _ | f
    · have e : ra 0 = .ref b := e
      rw [e0] at e; cases e; exact (ab.2.1 _ m0).2.1
    · have e : ra 1 = .ref b := e
      rw [e1] at e; cases e; exact (ab.2.1 _ m1).2.1
    · have e : ra 2 = .ref b := e
      rw [e2] at e; cases e; exact (ab.2.1 _ m2).2.1
    · have e : ra 3 = .ref b := e
      rw [e3] at e; cases e; exact (ab.2.1 _ m3).2.1
    · have e : ra 4 = .ref b := e
      rw [e4] at e; cases e; exact (ab.2.1 _ m4).2.1
    · omega
  · rw [hr, e5] at e
    cases e
    obtain ⟨-, y2, y3⟩ := ab.2.1 _ m5
    have y2 : ln1 b5 = 512 := y2
    have y3 : h1 b5 = fun _ => .int 0 := y3
    refine ⟨y2, fun i _ => ?_⟩
    rw [y3]
    show (vI (.int 0)).toInt ≤ ((256 : Nat) : Int)
    decide
  · unfold gi
    rw [hr, e6]
    decide
-- the pool when it is whole: places that no object has are filled
def stK (S : List Nat) : List Nat := S ++ (tabR.filter (fun p => S.contains (p.1 / 1000) && (decide (20 ≤ p.1 / 1000 ∧ p.1 % 1000 = 0) || decide (p.1 / 1000 < 20 ∧ p.1 % 1000 < nf (p.1 / 1000))))).map (·.2)
theorem tabR_ok : tabR.all (fun p => (tabR.lookup p.1 == some p.2) && !(tabL.contains p.1) && decide (p.2 ≠ 0)) = true := by decide +kernel
theorem tabR_cl : tabR.all (fun p => (stK (stK (stK (stK [12, 13])))).contains p.2) = true := by decide +kernel
theorem tabI_ok : tabI.all (fun p => decide (p.2.1 ≤ 0 ∧ (0 : Int) ≤ p.2.2)) = true := by decide +kernel
theorem stK_ok {K : Nat → Nat} {h : Nat → Nat → Value} (ok : OkW K h) {S : List Nat} (h0 : ∀ k ∈ S, k ≠ 0 ∧ ∃ a, K a = k) : ∀ k ∈ stK S, k ≠ 0 ∧ ∃ a, K a = k := by
  intro k hk
  unfold stK at hk
  rcases List.mem_append.mp hk with x | x
  · exact h0 k x
  · obtain ⟨⟨c, k2⟩, hp, e⟩ := List.mem_map.mp x
    have e : k2 = k := e
    subst e
    obtain ⟨hp1, hp2⟩ := List.mem_filter.mp hp
    rw [Bool.and_eq_true, Bool.or_eq_true] at hp2
    obtain ⟨m1, m2⟩ := hp2
    have m1 : S.contains (c / 1000) = true := m1
    obtain ⟨hc0, a, ha⟩ := h0 _ (List.contains_iff_mem.mp m1)
    have tk := List.all_eq_true.mp tabR_ok _ hp1
    rw [Bool.and_eq_true, Bool.and_eq_true] at tk
    obtain ⟨⟨t1, t2⟩, t3⟩ := tk
    have t1 : tabR.lookup c = some k2 := by simpa using t1
    have t2 : tabL.contains c = false := by simpa using t2
    have t3 : k2 ≠ 0 := by simpa using t3
    have hcd : cd (c / 1000) (c % 1000) = c := by
      rcases m2 with y | y
      · have y : 20 ≤ c / 1000 ∧ c % 1000 = 0 := of_decide_eq_true y
        rw [cd_a (by omega)]
        omega
      · have y : c / 1000 < 20 ∧ c % 1000 < nf (c / 1000) := of_decide_eq_true y
        rw [cd_o y.1]
        omega
    have := ok a (c % 1000) (by rw [ha]; exact hc0) (by
      rw [ha]
      intro hlt
      rcases m2 with y | y
      · have y : 20 ≤ c / 1000 ∧ c % 1000 = 0 := of_decide_eq_true y
        omega
      · have y : c / 1000 < 20 ∧ c % 1000 < nf (c / 1000) := of_decide_eq_true y
        exact y.2)
    rw [ha, hcd] at this
    obtain ⟨b, -, hb⟩ := okc_r t2 t1 this
    exact ⟨t3, b, hb⟩
theorem lookup_in {α : Type} : ∀ (l : List (Nat × α)) (c : Nat) (v : α), l.lookup c = some v → (c, v) ∈ l
  | [], c, v, h => by simp at h
  | (x, y) :: l, c, v, h => by
    rw [List.lookup_cons] at h
    cases q : c == x with
    | true =>
      rw [q] at h
      cases h
      have : c = x := by simpa using q
      rw [this]
      exact List.mem_cons_self
    | false =>
      rw [q] at h
      exact List.mem_cons_of_mem _ (lookup_in l c v h)
theorem okc_any {K : Nat → Nat} {h : Nat → Nat → Value} (ok : OkW K h) {qc qm : Nat} (kc : K qc = 12) (km : K qm = 13) (c : Nat) : ∃ v, okc K c v := by
  have s0 : ∀ k ∈ ([12, 13] : List Nat), k ≠ 0 ∧ ∃ a, K a = k := by
    intro k hk
    rcases List.mem_cons.mp hk with e | e
    · subst e; exact ⟨by decide, qc, kc⟩
    · have := List.mem_singleton.mp e
      subst this; exact ⟨by decide, qm, km⟩
  have s4 := stK_ok ok (stK_ok ok (stK_ok ok (stK_ok ok s0)))
  by_cases q : tabL.contains c = true
  · exact ⟨.long 0, okc_l' q⟩
  · have q : tabL.contains c = false := by simpa using q
    cases hq : tabR.lookup c with
    | some k =>
      have := List.all_eq_true.mp tabR_cl _ (lookup_in tabR c k hq)
      obtain ⟨-, b, hb⟩ := s4 k (List.contains_iff_mem.mp this)
      exact ⟨.ref b, okc_r' q hq hb⟩
    | none =>
      refine ⟨.int 0, ?_⟩
      unfold okc
      rw [if_neg (by rw [q]; decide), hq]
      refine ⟨0, rfl, ?_⟩
      cases hi : tabI.lookup c with
      | none => trivial
      | some z =>
        have := List.all_eq_true.mp tabI_ok _ (lookup_in tabI c z hi)
        have this : z.1 ≤ 0 ∧ (0 : Int) ≤ z.2 := of_decide_eq_true this
        have h0 : (0 : Int32).toInt = 0 := by decide
        show z.1 ≤ (0 : Int32).toInt ∧ (0 : Int32).toInt ≤ z.2
        rw [h0]
        exact this
theorem fill_ok {K : Nat → Nat} {h : Nat → Nat → Value} (ok : OkW K h) {qc qm : Nat} (kc : K qc = 12) (km : K qm = 13) : ∃ h1 : Nat → Nat → Value, Ok K h1 ∧ ∀ a j, (K a < 20 → j < nf (K a)) → h1 a j = h a j := by
  have ex := okc_any ok kc km
  refine ⟨fun a j => if K a < 20 ∧ nf (K a) ≤ j then Classical.choose (ex (cd (K a) j)) else h a j, fun a j ha => ?_, fun a j hj => ?_⟩
  · by_cases e : K a < 20 ∧ nf (K a) ≤ j
    · show okc K _ (if _ then _ else _)
      rw [if_pos e]
      exact Classical.choose_spec (ex (cd (K a) j))
    · show okc K _ (if _ then _ else _)
      rw [if_neg e]
      exact ok a j ha (fun h2 => by omega)
  · show (if _ then _ else _) = _
    rw [if_neg (fun e => by have := hj e.1; omega)]
theorem cell_fill {cy : Nat → ClassId} {K ln : Nat → Nat} {h h1 : Nat → Nat → Value} (he : ∀ a j, (K a < 20 → j < nf (K a)) → h1 a j = h a j) (a : Nat) : cellOf cy K ln h1 a = cellOf cy K ln h a := by
  unfold cellOf
  by_cases e : K a < 20
  · rw [if_pos e, if_pos e]
    have : (List.range (nf (K a))).map (h1 a) = (List.range (nf (K a))).map (h a) := List.map_congr_left (fun j hj => he a j (fun _ => List.mem_range.mp hj))
    rw [this]
  · have : h1 a = h a := funext fun j => he a j (fun h2 => absurd h2 e)
    rw [this]
theorem NSx_fl {K ln : Nat → Nat} {h h1 : Nat → Nat → Value} {n : Nat} (ok : OkW K h) (he : ∀ a j, (K a < 20 → j < nf (K a)) → h1 a j = h a j) (N : NSx K ln h n) : NSx K ln h1 n := by
  refine ⟨N.1, N.2.1, fun a ka => ?_⟩
  obtain ⟨n1, n2, n3⟩ := N.2.2 a ka
  have ea : ∀ f, f < 7 → h1 a f = h a f := fun f hf => he a f (by rw [ka]; intro _; exact Nat.lt_of_lt_of_le hf (by decide))
  refine ⟨fun f b hf e => ?_, fun b e => ?_, ?_⟩
  · rw [ea f (by omega)] at e
    exact n1 f b hf e
  · rw [ea 5 (by decide)] at e
    have := ok a 5 (by rw [ka]; decide) (by rw [ka]; intro _; decide)
    rw [ka, e] at this
    obtain ⟨b2, e2, kb⟩ := okc_r (cq := 4005) (k := 33) (by decide) (by decide) this
    cases e2
    have eb : h1 b = h b := funext fun j => he b j (by rw [kb]; intro h2; exact absurd h2 (by decide))
    rw [eb]
    exact n2 b e
  · unfold gi at n3 ⊢
    rw [ea 6 (by decide)]
    exact n3
theorem pool_done {G : va_G} {cy : Nat → ClassId} {A : Nat → Prop} {H : Heap} {K ln : Nat → Nat} {h : Nat → Nat → Value} {pl : va_W} {qc qm b35 b36 : Nat} (hpl : PLW cy K ln h pl) (hP : va_P G vwCl pl H) (hD : va_D A pl) (kc : K qc = 12) (km : K qm = 13) (ns : NSx K ln h 256) (e35 : h qm 35 = .ref b35) (e36 : h qm 36 = .ref b36) (k35 : K b35 = 81) (k36 : K b36 = 82) (z35 : h b35 = fun _ => .int 0) (z36 : h b36 = fun _ => .int 0) : ∃ (Ls : List Nat) (h1 : Nat → Nat → Value), SW K ln Ls ∧ Ok K h1 ∧ PW G cy K ln Ls A h1 H ∧ NSx K ln h1 256 ∧ LW h1 qm := by
  obtain ⟨Ls, rfl, hW, ok⟩ := hpl
  obtain ⟨h1, ok1, he⟩ := fill_ok ok kc km
  have ec : va_pl Ls (cellOf cy K ln h) = va_pl Ls (cellOf cy K ln h1) := va_pl_congr (fun b => (cell_fill he b).symm)
  rw [ec] at hP hD
  refine ⟨Ls, h1, hW, ok1, ⟨hP, hD⟩, NSx_fl ok he ns, ?_⟩
  have m35 : ∀ i, mA h1 qm 35 i = 0 := by
    intro i
    unfold mA
    rw [he qm 35 (by rw [km]; intro _; decide), e35]
    show (vI (h1 b35 i)).toInt = 0
    rw [he b35 i (by rw [k35]; intro h2; exact absurd h2 (by decide)), z35]
    show (vI (.int 0)).toInt = 0
    decide
  have m36 : ∀ i, mA h1 qm 36 i = 0 := by
    intro i
    unfold mA
    rw [he qm 36 (by rw [km]; intro _; decide), e36]
    show (vI (h1 b36 i)).toInt = 0
    rw [he b36 i (by rw [k36]; intro h2; exact absurd h2 (by decide)), z36]
    show (vI (.int 0)).toInt = 0
    decide
  intro j _
  exact Or.inl ((m35 _).trans (m36 _).symm)
