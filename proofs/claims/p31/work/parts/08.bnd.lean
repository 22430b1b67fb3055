-- bounds of ints
theorem b_all (x : Int32) : (-2147483648 : Int) ≤ x.toInt ∧ x.toInt ≤ 2147483647 := by
  have h1 := Int32.le_toInt x
  have h2 := Int32.toInt_lt x
  omega
theorem e_iadd {x y v : Int32} {a b c d : Int} (e : v = x + y) (hx : a ≤ x.toInt ∧ x.toInt ≤ b) (hy : c ≤ y.toInt ∧ y.toInt ≤ d) (h1 : -2147483648 ≤ a + c) (h2 : b + d ≤ 2147483647) : v.toInt = x.toInt + y.toInt := by
  rw [e, Int32.toInt_add]
  apply Int.bmod_eq_of_le <;> omega
theorem e_isub {x y v : Int32} {a b c d : Int} (e : v = x - y) (hx : a ≤ x.toInt ∧ x.toInt ≤ b) (hy : c ≤ y.toInt ∧ y.toInt ≤ d) (h1 : -2147483648 ≤ a - d) (h2 : b - c ≤ 2147483647) : v.toInt = x.toInt - y.toInt := by
  rw [e, Int32.toInt_sub]
  apply Int.bmod_eq_of_le <;> omega
theorem e_imul {x y v : Int32} {b d : Int} (e : v = x * y) (hx : 0 ≤ x.toInt ∧ x.toInt ≤ b) (hy : 0 ≤ y.toInt ∧ y.toInt ≤ d) (h2 : b * d ≤ 2147483647) : v.toInt = x.toInt * y.toInt := by
  have h3 : 0 ≤ x.toInt * y.toInt := Int.mul_nonneg hx.1 hy.1
  have h4 : x.toInt * y.toInt ≤ b * d := Int.mul_le_mul hx.2 hy.2 hy.1 (Int.le_trans hx.1 hx.2)
  rw [e, Int32.toInt_mul]
  apply Int.bmod_eq_of_le <;> omega
theorem b_iadd {x y v : Int32} {a b c d lo hi : Int} (e : v = x + y) (hx : a ≤ x.toInt ∧ x.toInt ≤ b) (hy : c ≤ y.toInt ∧ y.toInt ≤ d) (h1 : -2147483648 ≤ a + c) (h2 : b + d ≤ 2147483647) (h3 : lo ≤ a + c) (h4 : b + d ≤ hi) : lo ≤ v.toInt ∧ v.toInt ≤ hi := by
  have := e_iadd e hx hy h1 h2
  omega
theorem b_isub {x y v : Int32} {a b c d lo hi : Int} (e : v = x - y) (hx : a ≤ x.toInt ∧ x.toInt ≤ b) (hy : c ≤ y.toInt ∧ y.toInt ≤ d) (h1 : -2147483648 ≤ a - d) (h2 : b - c ≤ 2147483647) (h3 : lo ≤ a - d) (h4 : b - c ≤ hi) : lo ≤ v.toInt ∧ v.toInt ≤ hi := by
  have := e_isub e hx hy h1 h2
  omega
theorem b_imul {x y v : Int32} {a b c d lo hi : Int} (e : v = x * y) (hx : a ≤ x.toInt ∧ x.toInt ≤ b) (hy : c ≤ y.toInt ∧ y.toInt ≤ d) (ha : 0 ≤ a) (hc : 0 ≤ c) (h2 : b * d ≤ 2147483647) (h3 : lo ≤ a * c) (h4 : b * d ≤ hi) : lo ≤ v.toInt ∧ v.toInt ≤ hi := by
  have := e_imul e (b := b) (d := d) ⟨by omega, hx.2⟩ ⟨by omega, hy.2⟩ h2
  have h5 : x.toInt * y.toInt ≤ b * d := Int.mul_le_mul hx.2 hy.2 (by omega) (by omega)
  have h6 : a * c ≤ x.toInt * y.toInt := Int.mul_le_mul hx.1 hy.1 hc (by omega)
  omega
theorem nn_bv {x : Int32} (h : 0 ≤ x.toInt) : x.toInt = (x.toBitVec.toNat : Int) := by
  obtain ⟨j, hj, e⟩ := nI_of (x := x) (by rw [fa_lt]; have h0 : (0 : Int32).toInt = 0 := (by decide); omega)
  subst e
  rw [nI_toInt hj, pk_tn (by omega)]
theorem bv_nn {x : Int32} (h : x.toBitVec.toNat < 2 ^ 31) : x.toInt = (x.toBitVec.toNat : Int) := by
  show x.toBitVec.toInt = _
  rw [BitVec.toInt_eq_toNat_cond]
  rw [if_pos (by omega)]
theorem b_and_r {x y v : Int32} {c d lo hi : Int} (e : v = x &&& y) (hy : c ≤ y.toInt ∧ y.toInt ≤ d) (hc : 0 ≤ c) (h3 : lo ≤ 0) (h4 : d ≤ hi) : lo ≤ v.toInt ∧ v.toInt ≤ hi := by
  have h1 := nn_bv (x := y) (by omega)
  have h0 := (b_all y).2
  have h2 : v.toBitVec.toNat ≤ y.toBitVec.toNat := by
    rw [e, Int32.toBitVec_and, BitVec.toNat_and]
    exact Nat.and_le_right
  have h5 := bv_nn (x := v) (by omega)
  omega
theorem b_and_l {x y v : Int32} {c d lo hi : Int} (e : v = x &&& y) (hx : c ≤ x.toInt ∧ x.toInt ≤ d) (hc : 0 ≤ c) (h3 : lo ≤ 0) (h4 : d ≤ hi) : lo ≤ v.toInt ∧ v.toInt ≤ hi := by
  have h1 := nn_bv (x := x) (by omega)
  have h0 := (b_all x).2
  have h2 : v.toBitVec.toNat ≤ x.toBitVec.toNat := by
    rw [e, Int32.toBitVec_and, BitVec.toNat_and]
    exact Nat.and_le_left
  have h5 := bv_nn (x := v) (by omega)
  omega
theorem shl_tab : ∀ n : Nat, n ≤ 16 → ((1 : Int32) <<< (nI n &&& 31)).toInt = (2 : Int) ^ n := by decide
theorem shl_b {y v : Int32} {n : Nat} (e : v = 1 <<< (y &&& 31)) (hy : 0 ≤ y.toInt ∧ y.toInt ≤ n) (hn : n ≤ 16) : 1 ≤ v.toInt ∧ v.toInt ≤ (2 : Int) ^ n := by
  obtain ⟨N, e1, h1, h2, h3⟩ := b_of hy (by decide)
  subst e1
  rw [e, shl_tab N (by omega)]
  have h4 : N ≤ n := by omega
  have h5 : (2 : Nat) ^ N ≤ 2 ^ n := Nat.pow_le_pow_right (by decide) h4
  have h6 : 1 ≤ (2 : Nat) ^ N := Nat.one_le_two_pow
  constructor
  · have : ((1 : Nat) : Int) ≤ ((2 ^ N : Nat) : Int) := by exact_mod_cast h6
    simpa using this
  · have : ((2 ^ N : Nat) : Int) ≤ ((2 ^ n : Nat) : Int) := by exact_mod_cast h5
    simpa using this
theorem b_shl1 {y v : Int32} {c d lo hi : Int} (n : Nat) (e : v = 1 <<< (y &&& 31)) (hy : c ≤ y.toInt ∧ y.toInt ≤ d) (hc : 0 ≤ c) (hd : d ≤ n) (hn : n ≤ 16) (h3 : lo ≤ 1) (h4 : (2 : Int) ^ n ≤ hi) : lo ≤ v.toInt ∧ v.toInt ≤ hi := by
  have := shl_b (n := n) e ⟨by omega, by omega⟩ hn
  omega
theorem b_wid2 {x : Int32} {a b lo hi : Int} (h : a ≤ x.toInt ∧ x.toInt ≤ b) (h1 : lo ≤ a) (h2 : b ≤ hi) : lo ≤ x.toInt ∧ x.toInt ≤ hi := by omega
theorem b_rem {x y v : Int32} {a b d lo hi : Int} (e : v = x - x / y * y) (hx : a ≤ x.toInt ∧ x.toInt ≤ b) (ha : 0 ≤ a) (hy : y.toInt = d) (hd : 1 ≤ d) (h3 : lo ≤ 0) (h4 : d ≤ hi + 1) : lo ≤ v.toInt ∧ v.toInt ≤ hi := by
  obtain ⟨N, e1, h1, h2, h5⟩ := b_of hx ha
  obtain ⟨M, e2, h6, h7, h8⟩ := b_of (x := y) (lo := d) (hi := d) ⟨by omega, by omega⟩ (by omega)
  subst e1; subst e2
  rw [pk_rem h5 (by omega) h8] at e
  have h9 : N % M < M := Nat.mod_lt _ (by omega)
  rw [e, nI_toInt (by omega)]
  omega
theorem ne_z {x : Int32} {a b : Int} (hx : a ≤ x.toInt ∧ x.toInt ≤ b) (h : 0 < a ∨ b < 0) : ¬ x = 0 := fun e => by
  subst e
  have : (0 : Int32).toInt = 0 := by decide
  omega
theorem vp_b {x : Int32} {n : Nat} {a b : Int} (hx : a ≤ x.toInt ∧ x.toInt ≤ b) (h0 : 0 ≤ a) (h1 : b < n) : vp_in x n := vp_in_iff.mpr (by omega)
theorem b01 {x : Int32} (h : (0 : Int) ≤ x.toInt ∧ x.toInt ≤ 1) : x = 0 ∨ x = 1 := by
  by_cases e : x.toInt = 0
  · exact Or.inl (Int32.toInt_inj.mp (e.trans (by decide)))
  · exact Or.inr (Int32.toInt_inj.mp ((by omega : x.toInt = 1).trans (by decide)))
theorem nz_n {x : Int32} {a b : Int} (h : a ≤ x.toInt ∧ x.toInt ≤ b) (ha : 0 ≤ a) (hb : b ≤ 1) : narrow .boolean (.int x) = .int x := by
  rcases b01 (x := x) (by omega) with e | e <;> subst e <;> rfl
theorem nz_f {x : Int32} {a b : Int} (h : a ≤ x.toInt ∧ x.toInt ≤ b) (ha : 0 ≤ a) (hb : b ≤ 1) : fits .boolean (.int x) = true := by
  rcases b01 (x := x) (by omega) with e | e <;> subst e <;> rfl
-- branches
theorem r_lt_x {x y : Int32} {a b c d lo hi : Int} (h : x < y) (hx : a ≤ x.toInt ∧ x.toInt ≤ b) (hy : c ≤ y.toInt ∧ y.toInt ≤ d) (h1 : lo ≤ a) (h2 : b ≤ hi ∨ d ≤ hi + 1) : lo ≤ x.toInt ∧ x.toInt ≤ hi := by rw [fa_lt] at h; omega
theorem r_lt_y {x y : Int32} {a b c d lo hi : Int} (h : x < y) (hx : a ≤ x.toInt ∧ x.toInt ≤ b) (hy : c ≤ y.toInt ∧ y.toInt ≤ d) (h1 : lo ≤ c ∨ lo ≤ a + 1) (h2 : d ≤ hi) : lo ≤ y.toInt ∧ y.toInt ≤ hi := by rw [fa_lt] at h; omega
theorem r_le_x {x y : Int32} {a b c d lo hi : Int} (h : x ≤ y) (hx : a ≤ x.toInt ∧ x.toInt ≤ b) (hy : c ≤ y.toInt ∧ y.toInt ≤ d) (h1 : lo ≤ a) (h2 : b ≤ hi ∨ d ≤ hi) : lo ≤ x.toInt ∧ x.toInt ≤ hi := by rw [fa_le] at h; omega
theorem r_le_y {x y : Int32} {a b c d lo hi : Int} (h : x ≤ y) (hx : a ≤ x.toInt ∧ x.toInt ≤ b) (hy : c ≤ y.toInt ∧ y.toInt ≤ d) (h1 : lo ≤ c ∨ lo ≤ a) (h2 : d ≤ hi) : lo ≤ y.toInt ∧ y.toInt ≤ hi := by rw [fa_le] at h; omega
theorem r_eq_x {x y : Int32} {a b c d lo hi : Int} (h : x = y) (hx : a ≤ x.toInt ∧ x.toInt ≤ b) (hy : c ≤ y.toInt ∧ y.toInt ≤ d) (h1 : lo ≤ a ∨ lo ≤ c) (h2 : b ≤ hi ∨ d ≤ hi) : lo ≤ x.toInt ∧ x.toInt ≤ hi := by subst h; omega
theorem r_ne_lo {x y : Int32} {a b lo hi : Int} (h : ¬ x = y) (hx : a ≤ x.toInt ∧ x.toInt ≤ b) (hy : y.toInt = a) (h1 : lo ≤ a + 1) (h2 : b ≤ hi) : lo ≤ x.toInt ∧ x.toInt ≤ hi := by
  have : x.toInt ≠ y.toInt := fun e => h (Int32.toInt_inj.mp e)
  omega
theorem r_ne_hi {x y : Int32} {a b lo hi : Int} (h : ¬ x = y) (hx : a ≤ x.toInt ∧ x.toInt ≤ b) (hy : y.toInt = b) (h1 : lo ≤ a) (h2 : b ≤ hi + 1) : lo ≤ x.toInt ∧ x.toInt ≤ hi := by
  have : x.toInt ≠ y.toInt := fun e => h (Int32.toInt_inj.mp e)
  omega
theorem d_lt {x y : Int32} {a b c d : Int} (hx : a ≤ x.toInt ∧ x.toInt ≤ b) (hy : c ≤ y.toInt ∧ y.toInt ≤ d) (h : b < c) : x < y := by rw [fa_lt]; omega
theorem d_nlt {x y : Int32} {a b c d : Int} (hx : a ≤ x.toInt ∧ x.toInt ≤ b) (hy : c ≤ y.toInt ∧ y.toInt ≤ d) (h : d ≤ a) : ¬ x < y := by rw [fa_lt]; omega
theorem d_le {x y : Int32} {a b c d : Int} (hx : a ≤ x.toInt ∧ x.toInt ≤ b) (hy : c ≤ y.toInt ∧ y.toInt ≤ d) (h : b ≤ c) : x ≤ y := by rw [fa_le]; omega
theorem d_nle {x y : Int32} {a b c d : Int} (hx : a ≤ x.toInt ∧ x.toInt ≤ b) (hy : c ≤ y.toInt ∧ y.toInt ≤ d) (h : d < a) : ¬ x ≤ y := by rw [fa_le]; omega
theorem d_ne {x y : Int32} {a b c d : Int} (hx : a ≤ x.toInt ∧ x.toInt ≤ b) (hy : c ≤ y.toInt ∧ y.toInt ≤ d) (h : d < a ∨ b < c) : ¬ x = y := fun e => by subst e; omega
theorem d_eq {x y : Int32} {a : Int} (hx : a ≤ x.toInt ∧ x.toInt ≤ a) (hy : a ≤ y.toInt ∧ y.toInt ≤ a) : x = y := Int32.toInt_inj.mp (by omega)
theorem b_min {x y v : Int32} {a b c d lo hi : Int} (e : v = if y < x then y else x) (hx : a ≤ x.toInt ∧ x.toInt ≤ b) (hy : c ≤ y.toInt ∧ y.toInt ≤ d) (h1 : lo ≤ a) (h2 : lo ≤ c) (h3 : b ≤ hi ∨ d ≤ hi) : lo ≤ v.toInt ∧ v.toInt ≤ hi := by
  by_cases q : y < x
  · rw [if_pos q] at e; subst e; rw [fa_lt] at q; omega
  · rw [if_neg q] at e; subst e; rw [fa_lt] at q; omega
theorem b_max {x y v : Int32} {a b c d lo hi : Int} (e : v = if x < y then y else x) (hx : a ≤ x.toInt ∧ x.toInt ≤ b) (hy : c ≤ y.toInt ∧ y.toInt ≤ d) (h1 : lo ≤ a ∨ lo ≤ c) (h2 : b ≤ hi) (h3 : d ≤ hi) : lo ≤ v.toInt ∧ v.toInt ≤ hi := by
  by_cases q : x < y
  · rw [if_pos q] at e; subst e; rw [fa_lt] at q; omega
  · rw [if_neg q] at e; subst e; rw [fa_lt] at q; omega
theorem nar_z (x : Int32) : (0 : Int) ≤ (vp_nar .boolean x).toInt ∧ (vp_nar .boolean x).toInt ≤ 1 := b_and_r (x := x) (y := 1) (c := 1) (d := 1) (v := vp_nar .boolean x) rfl ⟨by decide, by decide⟩ (by decide) (by decide) (by decide)
theorem nar_b (x : Int32) : (-128 : Int) ≤ (vp_nar .byte x).toInt ∧ (vp_nar .byte x).toInt ≤ 127 := by
  rw [vp_nar_byte]
  have h1 := Int8.le_toInt x.toInt8
  have h2 := Int8.toInt_lt x.toInt8
  rw [Int8.toInt_toInt32]
  omega
theorem fit_b {x : Int32} (h : (-128 : Int) ≤ x.toInt ∧ x.toInt ≤ 127) : fits .byte (.int x) = true := by
  have e : x = x.toInt8.toInt32 := by
    apply Int32.toInt_inj.mp
    rw [Int8.toInt_toInt32, Int32.toInt_toInt8]
    exact (Int.bmod_eq_of_le (by omega) (by omega)).symm
  rw [e]
  exact pk_fb x
theorem toi {x : Int32} {k : Int} (h : k ≤ x.toInt ∧ x.toInt ≤ k) : x.toInt = k := by omega
theorem lp_in (a : Int) : a < ((a.toNat + 1 : Nat) : Int) := by omega
theorem i2c_b {x v : Int32} (e : v = (x.toUInt32 % 65536).toInt32) : (0 : Int) ≤ v.toInt ∧ v.toInt ≤ 65535 := by
  rw [pk_char] at e
  have : x.toBitVec.toNat % 65536 < 65536 := Nat.mod_lt _ (by decide)
  rw [e, nI_toInt (by omega)]
  omega
theorem b_or01 {x y v : Int32} {a b c d : Int} (e : v = x ||| y) (hx : a ≤ x.toInt ∧ x.toInt ≤ b) (hy : c ≤ y.toInt ∧ y.toInt ≤ d) (h1 : 0 ≤ a) (h2 : b ≤ 1) (h3 : 0 ≤ c) (h4 : d ≤ 1) : (0 : Int) ≤ v.toInt ∧ v.toInt ≤ 1 := by
  rcases b01 (x := x) (by omega) with q | q <;> rcases b01 (x := y) (by omega) with r | r <;> subst q <;> subst r <;> subst e <;> decide
theorem b_meet {x : Int32} {a b c d lo hi : Int} (h1 : a ≤ x.toInt ∧ x.toInt ≤ b) (h2 : c ≤ x.toInt ∧ x.toInt ≤ d) (q1 : lo ≤ a ∨ lo ≤ c) (q2 : b ≤ hi ∨ d ≤ hi) : lo ≤ x.toInt ∧ x.toInt ≤ hi := by omega
def bcnt (x : Int32) : Int32 :=
  let us := fun (a b : Int32) => (a.toUInt32 >>> (b.toUInt32 &&& Int32.toUInt32 31)).toInt32
  let x1 := x - (us x 1 &&& 1431655765)
  let x2 := (x1 &&& 858993459) + (us x1 2 &&& 858993459)
  let x3 := (x2 + us x2 4) &&& 252645135
  let x4 := x3 + us x3 8
  let x5 := x4 + us x4 16
  x5 &&& 63
theorem b_isub_le {x y v : Int32} {a b c d hi : Int} (e : v = x - y) (hx : a ≤ x.toInt ∧ x.toInt ≤ b) (hy : c ≤ y.toInt ∧ y.toInt ≤ d) (h : y ≤ x) (h1 : -2147483648 ≤ a - d) (h2 : b - c ≤ 2147483647) (h4 : b - c ≤ hi) : (0 : Int) ≤ v.toInt ∧ v.toInt ≤ hi := by
  have := e_isub e hx hy h1 h2
  rw [fa_le] at h
  omega
def gi (h : Nat → Nat → Value) (a k : Nat) : Int := (vI (h a k)).toInt
theorem gi_of {h : Nat → Nat → Value} {a k : Nat} {z : Int32} (e : h a k = .int z) : gi h a k = z.toInt := by unfold gi; rw [e]; rfl
def ge (h : Nat → Nat → Value) (a f k : Nat) : Int := (vI (h ((vR (h a f)).getD 0) (vI (h a k)).toNatClampNeg)).toInt
theorem ge_of {h : Nat → Nat → Value} {a f k b : Nat} {i z : Int32} (e1 : h a f = .ref b) (e2 : h a k = .int i) (e3 : h b i.toNatClampNeg = .int z) : ge h a f k = z.toInt := by
  unfold ge
  rw [e1, e2]
  show (vI (h b i.toNatClampNeg)).toInt = _
  rw [e3]
  rfl
def ga (h : Nat → Nat → Value) (a f : Nat) (i : Int32) : Int := (vI (h ((vR (h a f)).getD 0) i.toNatClampNeg)).toInt
theorem ga_of {h : Nat → Nat → Value} {a f b : Nat} {i z : Int32} (e1 : h a f = .ref b) (e3 : h b i.toNatClampNeg = .int z) : ga h a f i = z.toInt := by
  unfold ga
  rw [e1]
  show (vI (h b i.toNatClampNeg)).toInt = _
  rw [e3]
  rfl
