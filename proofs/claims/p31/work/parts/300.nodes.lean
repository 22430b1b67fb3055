-- the class's nodes: rows of one length n, a table of twice that
def NSx (K ln : Nat → Nat) (h : Nat → Nat → Value) (n : Nat) : Prop := (256 ≤ n ∧ n ≤ 131072) ∧ (∀ a b, K a = 4 → K b = 4 → a = b) ∧ ∀ a, K a = 4 → (∀ f b, f < 5 → h a f = .ref b → ln b = n) ∧ (∀ b, h a 5 = .ref b → ln b = 2 * n ∧ ∀ i, i < 2 * n → (vI (h b i)).toInt ≤ n) ∧ gi h a 6 ≤ n
section NSX
variable {K ln : Nat → Nat} {h u : Nat → Nat → Value} {n a b : Nat} {z : Int32}
theorem NSx.bd (N : NSx K ln h n) : 256 ≤ n ∧ n ≤ 131072 := N.1
theorem NSx.ref (N : NSx K ln h n) (hk : K a = 4) {f : Nat} (hf : f < 5) (e : h a f = .ref b) : ln b = n := (N.2.2 a hk).1 f b hf e
theorem NSx.tab (N : NSx K ln h n) (hk : K a = 4) (e : h a 5 = .ref b) : ln b = 2 * n := ((N.2.2 a hk).2.1 b e).1
theorem NSx.elt (N : NSx K ln h n) (hk : K a = 4) (e : h a 5 = .ref b) {i : Int32} (hi : vp_in i (2 * n)) (ez : h b i.toNatClampNeg = .int z) : z.toInt ≤ n := by
  have := ((N.2.2 a hk).2.1 b e).2 i.toNatClampNeg (by rw [vp_in_iff] at hi; have := clampN (x := i) (by omega); omega)
  rw [ez] at this
  exact this
theorem NSx.sz (N : NSx K ln h n) (hk : K a = 4) (e : h a 6 = .int z) : z.toInt ≤ n := by
  have := (N.2.2 a hk).2.2
  rw [gi_of e] at this
  exact this
theorem gi_frk {f k : Nat} {ws : List Nat} (hk : K a = k) (h20 : k < 20) (F : Fr ws K h u) (m1 : ws.contains (k * 1000 + f) = false) : gi u a f = gi h a f := by
  unfold gi
  rw [Fr.at (cq := k * 1000 + f) F hk (cd_o h20) m1]
theorem NSx_fr {ws : List Nat} (ok : Ok K h) (F : Fr ws K h u) (hd : ([4000, 4001, 4002, 4003, 4004, 4005, 4006, 33000] : List Nat).all (fun c => !(ws.contains c)) = true) (N : NSx K ln h n) : NSx K ln u n := by
  have hn : ∀ c, c ∈ ([4000, 4001, 4002, 4003, 4004, 4005, 4006, 33000] : List Nat) → ws.contains c = false := fun c hc => by
    have := List.all_eq_true.mp hd c hc
    simpa using this
  refine ⟨N.1, N.2.1, fun a hk => ?_⟩
  obtain ⟨n1, n2, n3⟩ := N.2.2 a hk
  have ef : ∀ f, f < 7 → u a f = h a f := fun f hf => by
    refine Fr.at (cq := 4 * 1000 + f) F hk (cd_o (by decide)) (hn _ ?_)
    rcases (show f = 0 ∨ f = 1 ∨ f = 2 ∨ f = 3 ∨ f = 4 ∨ f = 5 ∨ f = 6 by omega) with q | q | q | q | q | q | q <;> subst q <;> decide
  refine ⟨fun f b hf e => n1 f b hf (by rw [← ef f (by omega)]; exact e), fun b e => ?_, ?_⟩
  · rw [ef 5 (by omega)] at e
    obtain ⟨b5, e5, k5⟩ := rd_4005 ok hk
    have eb : b5 = b := Value.ref.inj (e5.symm.trans e)
    subst eb
    obtain ⟨m1, m2⟩ := n2 b5 e
    refine ⟨m1, fun i hi => ?_⟩
    rw [Fr.at (cq := 33000) F k5 (cd_a (by decide)) (hn _ (by decide))]
    exact m2 i hi
  · unfold gi at n3 ⊢
    rw [ef 6 (by omega)]
    exact n3
/-- size is set -/
theorem NSx_size (N : NSx K ln h n) (eh : u = up2 h a 6 (.int z)) (hk : K a = 4) (hz : z.toInt ≤ n) (ok : Ok K h) : NSx K ln u n := by
  refine ⟨N.1, N.2.1, fun b hb => ?_⟩
  obtain rfl : b = a := N.2.1 b a hb hk
  obtain ⟨n1, n2, n3⟩ := N.2.2 b hk
  subst eh
  refine ⟨fun f q hf e => n1 f q hf (by rw [up2_n (Or.inr (by omega))] at e; exact e), fun q e => ?_, ?_⟩
  · rw [up2_n (Or.inr (by decide))] at e
    obtain ⟨b5, e5, k5⟩ := rd_4005 ok hk
    have eb : b5 = q := Value.ref.inj (e5.symm.trans e)
    subst eb
    obtain ⟨m1, m2⟩ := n2 b5 e
    refine ⟨m1, fun i hi => ?_⟩
    rw [up2_n (Or.inl (kd_ne k5 hk (by decide)))]
    exact m2 i hi
  · rw [gi_of up2_s]
    exact hz
/-- a place of the table is set -/
theorem NSx_tab {i : Nat} (N : NSx K ln h n) (kb : K b = 33) (eh : u = up2 h b i (.int z)) (hz : z.toInt ≤ n) : NSx K ln u n := by
  refine ⟨N.1, N.2.1, fun a hk => ?_⟩
  obtain ⟨n1, n2, n3⟩ := N.2.2 a hk
  have hab : a ≠ b := kd_ne hk kb (by decide)
  subst eh
  refine ⟨fun f q hf e => n1 f q hf (by rw [up2_n (Or.inl hab)] at e; exact e), fun q e => ?_, ?_⟩
  · rw [up2_n (Or.inl hab)] at e
    obtain ⟨m1, m2⟩ := n2 q e
    refine ⟨m1, fun j hj => ?_⟩
    by_cases ej : q = b ∧ j = i
    · obtain ⟨rfl, rfl⟩ := ej
      rw [up2_s]
      exact hz
    · have : up2 h b i (.int z) q j = h q j := by unfold up2; rw [if_neg ej]
      rw [this]
      exact m2 j hj
  · unfold gi at n3 ⊢
    rw [up2_n (Or.inl hab)]
    exact n3
/-- the table is emptied -/
theorem NSx_fill (ok : Ok K h) (N : NSx K ln h n) (hk : K a = 4) (e : h a 5 = .ref b) (F : Fr [33000] K h u) (hz : ∀ i, i < ln b → u b i = .int 0) : NSx K ln u n := by
  refine ⟨N.1, N.2.1, fun c hc => ?_⟩
  obtain rfl : c = a := N.2.1 c a hc hk
  obtain ⟨n1, n2, n3⟩ := N.2.2 c hk
  have ef : ∀ f, f < 7 → u c f = h c f := fun f hf => by
    refine Fr.at (cq := 4 * 1000 + f) F hk (cd_o (by decide)) ?_
    rcases (show f = 0 ∨ f = 1 ∨ f = 2 ∨ f = 3 ∨ f = 4 ∨ f = 5 ∨ f = 6 by omega) with q | q | q | q | q | q | q <;> subst q <;> decide
  refine ⟨fun f q hf e2 => n1 f q hf (by rw [← ef f (by omega)]; exact e2), fun q e2 => ?_, ?_⟩
  · rw [ef 5 (by omega)] at e2
    have eb : b = q := Value.ref.inj (e.symm.trans e2)
    subst eb
    obtain ⟨m1, m2⟩ := n2 b e
    refine ⟨m1, fun i hi => ?_⟩
    rw [hz i (by omega)]
    have h0 : (vI (.int 0)).toInt = 0 := by decide
    omega
  · unfold gi at n3 ⊢
    rw [ef 6 (by omega)]
    exact n3
theorem vp_bv {i : Int32} {m : Nat} (h0 : 0 ≤ i.toInt) (h1 : i.toInt < m) : vp_in i m := vp_in_iff.mpr (by omega)
theorem ofNat_len {v : Int32} {m : Nat} (e : Int32.ofNat m = v) (h : m ≤ 262144) : v.toInt = m := by
  rw [← e]
  exact nI_toInt (n := m) (by omega)
end NSX
-- where a moment stands
def hshf (w k d : Int32) : Int32 :=
  let x := w * -1640531535 + k * -2048144789 + d * -1028477387
  x ^^^ (x.toUInt32 >>> ((15 : Int32).toUInt32 &&& Int32.toUInt32 31)).toInt32
def pkf (sd ca : Int32) : Int32 := sd ||| (ca <<< ((16 : Int32) &&& 31))
def SLt (h : Nat → Nat → Value) (a : Nat) (fl wt ck hd start mask i : Int32) : Prop :=
  mA h a 5 ((start + i) &&& mask).toNatClampNeg - 1 < 0 ∨ (fl.toInt ≤ mA h a 5 ((start + i) &&& mask).toNatClampNeg - 1 ∧ mA h a 0 (mA h a 5 ((start + i) &&& mask).toNatClampNeg - 1).toNat = wt.toInt ∧ mA h a 1 (mA h a 5 ((start + i) &&& mask).toNatClampNeg - 1).toNat = ck.toInt ∧ mA h a 2 (mA h a 5 ((start + i) &&& mask).toNatClampNeg - 1).toNat = hd.toInt)
def SLq (h : Nat → Nat → Value) (a n : Nat) (fl wt ck hd start mask r : Int32) : Prop :=
  (∃ i : Int32, 0 ≤ i.toInt ∧ i.toInt < 2 * n ∧ (∀ k : Int32, 0 ≤ k.toInt → k.toInt < i.toInt → ¬ SLt h a fl wt ck hd start mask k) ∧ SLt h a fl wt ck hd start mask i ∧ r = (start + i) &&& mask) ∨ ((∀ k : Int32, 0 ≤ k.toInt → k.toInt < 2 * n → ¬ SLt h a fl wt ck hd start mask k) ∧ r = -1)
def SLr (h : Nat → Nat → Value) (a s n : Nat) (fl r : Int32) : Prop :=
  SLq h a n fl (pkf (vI (h s 1)) (vI (h s 2))) (vI (h s 0)) (vI (h s 4)) (hshf (pkf (vI (h s 1)) (vI (h s 2))) (vI (h s 0)) (vI (h s 4))) (Int32.ofNat (2 * n) - 1) r
theorem SLr_one {h : Nat → Nat → Value} {a s n : Nat} {fl r r1 : Int32} (x : SLr h a s n fl r) (y : SLr h a s n fl r1) : r = r1 := by
  rcases x with ⟨i, i1, i2, i3, i4, i5⟩ | ⟨i1, i2⟩
  · rcases y with ⟨j, j1, j2, j3, j4, j5⟩ | ⟨j1, j2⟩
    · have e : i = j := by
        rcases Int.lt_trichotomy i.toInt j.toInt with q | q | q
        · exact absurd i4 (j3 i i1 q)
        · exact Int32.toInt_inj.mp q
        · exact absurd j4 (i3 j j1 q)
      rw [i5, j5, e]
    · exact absurd i4 (j1 i i1 i2)
  · rcases y with ⟨j, j1, j2, j3, j4, j5⟩ | ⟨j1, j2⟩
    · exact absurd j4 (i1 j j1 j2)
    · rw [i2, j2]
/-- it stands there -/
def FND (h : Nat → Nat → Value) (a s n : Nat) (fl : Int32) : Prop := ∃ r : Int32, SLr h a s n fl r ∧ 0 ≤ r.toInt ∧ 0 < mA h a 5 r.toNatClampNeg
theorem fill_step {h u : Nat → Nat → Value} {a : Nat} {v : Value} {i i1 : Int32} (J : ∀ k : Nat, (k : Int) < i.toInt → h a k = v) (eh : u = up2 h a i.toNatClampNeg v) (hi : 0 ≤ i.toInt) (hi1 : i1.toInt = i.toInt + 1) : ∀ k : Nat, (k : Int) < i1.toInt → u a k = v := by
  intro k hk
  subst eh
  have hc := clampN hi
  by_cases q : k = i.toNatClampNeg
  · subst q; exact up2_s
  · rw [up2_n (Or.inr q)]
    exact J k (by omega)
theorem SL_next {P : Int32 → Prop} {i i1 : Int32} (J : ∀ k : Int32, 0 ≤ k.toInt → k.toInt < i.toInt → ¬ P k) (hn : ¬ P i) (hi1 : i1.toInt = i.toInt + 1) : ∀ k : Int32, 0 ≤ k.toInt → k.toInt < i1.toInt → ¬ P k := by
  intro k h1 h2
  by_cases q : k.toInt < i.toInt
  · exact J k h1 q
  · have e : k = i := Int32.toInt_inj.mp (by omega)
    rw [e]; exact hn
