-- the reference: codes of laws
def mA (h : Nat → Nat → Value) (a f i : Nat) : Int := (vI (h ((vR (h a f)).getD 0) i)).toInt
theorem mA_of {h : Nat → Nat → Value} {a f b i : Nat} {z : Int32} (e1 : h a f = .ref b) (e2 : h b i = .int z) : mA h a f i = z.toInt := by
  unfold mA
  rw [e1]
  show (vI (h b i)).toInt = _
  rw [e2]
  rfl
theorem mA_row {h h1 : Nat → Nat → Value} {a f b : Nat} (e1 : h a f = .ref b) (e2 : h1 a f = h a f) (e3 : ∀ i, h1 b i = h b i) : mA h1 a f = mA h a f := by
  funext i
  unfold mA
  rw [e2, e1]
  show (vI (h1 b i)).toInt = (vI (h b i)).toInt
  rw [e3]
def dep (f : Nat → Int) (a : Nat) : Nat → Int
  | 0 => 0
  | k + 1 => dep f a k + (if f (a + k) < 2 then 1 else -1)
def CF (f g : Nat → Int) (a n : Nat) : Prop := ∀ k, k < n → (1 ≤ dep f a (k + 1) ∧ dep f a (k + 1) ≤ 40) ∧ (f (a + k) < 2 → f (a + k) = 0 ∨ (0 ≤ g (a + k) ∧ g (a + k) ≤ 4))
theorem dep_lo {f g : Nat → Int} {a n k : Nat} (h : CF f g a n) (hk : k < n) : 0 ≤ dep f a k ∧ dep f a k ≤ 40 := by
  cases k with
  | zero => exact ⟨Int.le_refl _, by show (0 : Int) ≤ 40; decide⟩
  | succ k =>
    have := (h k (by omega)).1
    omega
theorem cf_push {f g : Nat → Int} {a n k : Nat} (h : CF f g a n) (hk : k < n) (hc : f (a + k) < 2) : (0 ≤ dep f a k ∧ dep f a k ≤ 40) ∧ dep f a (k + 1) = dep f a k + 1 := ⟨dep_lo h hk, by show dep f a k + _ = _; rw [if_pos hc]⟩
theorem cf_op {f g : Nat → Int} {a n k : Nat} (h : CF f g a n) (hk : k < n) (hc : ¬ f (a + k) < 2) : (2 ≤ dep f a k ∧ dep f a k ≤ 40) ∧ dep f a (k + 1) = dep f a k - 1 := by
  have e : dep f a (k + 1) = dep f a k - 1 := by show dep f a k + _ = _; rw [if_neg hc]; omega
  have h1 := (h k hk).1
  have h2 := dep_lo h hk
  omega
theorem cf_var {f g : Nat → Int} {a n k : Nat} (h : CF f g a n) (hk : k < n) (hc : f (a + k) < 2) (h0 : f (a + k) ≠ 0) : 0 ≤ g (a + k) ∧ g (a + k) ≤ 4 := by
  rcases (h k hk).2 hc with e | e
  · exact absurd e h0
  · exact e
/-- the two laws of a side lie in its region, and are well made -/
def LSd (h : Nat → Nat → Value) (a s : Nat) : Prop := ∀ j, j < 2 → mA h a 35 (2 * s + j) = mA h a 36 (2 * s + j) ∨ ((420 * s : Nat) ≤ mA h a 35 (2 * s + j) ∧ mA h a 35 (2 * s + j) < mA h a 36 (2 * s + j) ∧ mA h a 36 (2 * s + j) ≤ (420 * s + 402 : Nat) ∧ CF (mA h a 39) (mA h a 40) (mA h a 35 (2 * s + j)).toNat (mA h a 36 (2 * s + j) - mA h a 35 (2 * s + j)).toNat)
def LW (h : Nat → Nat → Value) (a : Nat) : Prop := LSd h a (gi h a 18).toNat
def LWc : List Nat := [13018, 13035, 13036, 13039, 13040, 81000, 82000, 84000, 85000]
theorem LW_fr {K : Nat → Nat} {h h1 : Nat → Nat → Value} {a : Nat} {ws : List Nat} (ok : Ok K h) (hk : K a = 13) (F : Fr ws K h h1) (hd : LWc.all (fun c => !(ws.contains c)) = true) (lw : LW h a) : LW h1 a := by
  have hn : ∀ c, c ∈ LWc → ws.contains c = false := fun c hc => by
    have := List.all_eq_true.mp hd c hc
    simpa using this
  obtain ⟨b5, e5, k5⟩ := rd_13035 ok hk
  obtain ⟨b6, e6, k6⟩ := rd_13036 ok hk
  obtain ⟨b9, e9, k9⟩ := rd_13039 ok hk
  obtain ⟨b0, e0, k0⟩ := rd_13040 ok hk
  have r5 := mA_row e5 (Fr.at (cq := 13035) F hk (cd_o (by decide)) (hn _ (by decide))) (fun i => Fr.at (cq := 81000) F k5 (cd_a (by decide)) (hn _ (by decide)))
  have r6 := mA_row e6 (Fr.at (cq := 13036) F hk (cd_o (by decide)) (hn _ (by decide))) (fun i => Fr.at (cq := 82000) F k6 (cd_a (by decide)) (hn _ (by decide)))
  have r9 := mA_row e9 (Fr.at (cq := 13039) F hk (cd_o (by decide)) (hn _ (by decide))) (fun i => Fr.at (cq := 84000) F k9 (cd_a (by decide)) (hn _ (by decide)))
  have r0 := mA_row e0 (Fr.at (cq := 13040) F hk (cd_o (by decide)) (hn _ (by decide))) (fun i => Fr.at (cq := 85000) F k0 (cd_a (by decide)) (hn _ (by decide)))
  have r8 : gi h1 a 18 = gi h a 18 := by
    unfold gi
    rw [Fr.at (cq := 13018) F hk (cd_o (by decide)) (hn _ (by decide))]
  unfold LW LSd
  rw [r5, r6, r9, r0, r8]
  exact lw
def CFm (h : Nat → Nat → Value) (a : Nat) (x y : Int32) : Prop := 0 ≤ x.toInt ∧ x.toInt < y.toInt ∧ y.toInt ≤ 840 ∧ CF (mA h a 39) (mA h a 40) x.toNatClampNeg (y.toInt - x.toInt).toNat
theorem clampN {x : Int32} (h : 0 ≤ x.toInt) : (x.toNatClampNeg : Int) = x.toInt := by
  obtain ⟨j, hj, e⟩ := nI_of (x := x) (by rw [fa_lt]; have h0 : (0 : Int32).toInt = 0 := (by decide); omega)
  subst e
  rw [nI_clamp hj, nI_toInt hj]
theorem clamp_toNat {x : Int32} (h : 0 ≤ x.toInt) : x.toInt.toNat = x.toNatClampNeg := by
  have := clampN h
  omega
theorem lw_use {h : Nat → Nat → Value} {a b5 b6 : Nat} {zl i law x y : Int32} (lw : LW h a) (el : h a 18 = .int zl) (hl : (0 : Int) ≤ zl.toInt ∧ zl.toInt ≤ 1) (hw : (0 : Int) ≤ law.toInt ∧ law.toInt ≤ 1) (hi : i.toInt = 2 * zl.toInt + law.toInt) (e5 : h a 35 = .ref b5) (e6 : h a 36 = .ref b6) (ex : h b5 i.toNatClampNeg = .int x) (ey : h b6 i.toNatClampNeg = .int y) (hne : ¬ x = y) : CFm h a x y := by
  have hc := clampN (x := i) (by omega)
  have h2 := lw law.toInt.toNat (by omega)
  rw [gi_of el] at h2
  have ei : 2 * zl.toInt.toNat + law.toInt.toNat = i.toNatClampNeg := by omega
  rw [ei, mA_of e5 ex, mA_of e6 ey] at h2
  rcases h2 with q | ⟨q1, q2, q3, q4⟩
  · exact absurd (Int32.toInt_inj.mp q) hne
  · have q0 : 0 ≤ x.toInt := by omega
    refine ⟨q0, q2, by omega, ?_⟩
    rw [clamp_toNat q0] at q4
    exact q4
-- bits
theorem shr_nn {x y v : Int32} (e : v = x >>> (y &&& 31)) (hx : 0 ≤ x.toInt) (hy : 0 ≤ y.toInt ∧ y.toInt ≤ 31) : v.toInt = x.toInt / 2 ^ y.toInt.toNat := by
  obtain ⟨N, e1, h1, h2, h3⟩ := b_of (x := y) hy (by decide)
  subst e1
  rw [nI_toInt h3] at *
  have hs : ∀ n : Nat, n ≤ 31 → ((nI n &&& 31).toBitVec.smod 32).toNat = n := by decide
  have := pk_shr x (nI N &&& 31) N (hs N (by omega))
  rw [e, this, Int.shiftRight_eq_div_pow]
  simp
