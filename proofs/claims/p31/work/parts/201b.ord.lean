-- bits of a set, orders of words, rows of words
theorem bit_of {x w s b : Int32} (e1 : s = x >>> (w &&& 31)) (e2 : b = s &&& 1) (hx : 0 ≤ x.toInt) (hw : (0 : Int) ≤ w.toInt ∧ w.toInt ≤ 31) : b.toInt = x.toInt / ((2 ^ w.toInt.toNat : Nat) : Int) % 2 := by
  obtain ⟨N, q1, h1, h2, h3⟩ := b_of (x := w) hw (by decide)
  obtain ⟨X, q2, h4, h5, h6⟩ := b_of (x := x) (lo := 0) (hi := 2147483647) ⟨hx, by have := Int32.toInt_lt x; omega⟩ (by decide)
  subst q1; subst q2
  have hs : ∀ n : Nat, n ≤ 31 → ((nI n &&& 31).toBitVec.smod 32).toNat = n := by decide
  have hN : N ≤ 31 := by have := hw.2; rw [nI_toInt h3] at this; omega
  have hd : X / 2 ^ N < 2 ^ 32 := Nat.lt_of_le_of_lt (Nat.div_le_self _ _) (by omega)
  rw [e2, e1, pk_shrN h6 _ N (hs N hN), pk_andN hd (m := 1) 1 (by decide), nI_toInt h6, nI_toInt h3, nI_toInt (Nat.lt_of_lt_of_le (Nat.mod_lt _ (by decide)) (by decide))]
  first | rfl | simp
def bsx (x : Int32) : Nat → Int
  | 0 => 0
  | k + 1 => bsx x k + ((x >>> (nI k &&& 31)) &&& 1).toInt
theorem bsx_step {x w s b : Int32} {k : Nat} (e1 : s = x >>> (w &&& 31)) (e2 : b = s &&& 1) (hk : w = nI k) : bsx x (k + 1) = bsx x k + b.toInt := by
  subst hk; subst e2; subst e1
  rfl
theorem bsx_bit (x : Int32) : (0 : Int) ≤ (x &&& 1).toInt ∧ (x &&& 1).toInt ≤ 1 := b_and_r (x := x) (y := 1) (c := 1) (d := 1) (v := x &&& 1) rfl ⟨by decide, by decide⟩ (by decide) (by decide) (by decide)
theorem bsx_mono {x : Int32} {m n : Nat} (h : m ≤ n) : bsx x m ≤ bsx x n := by
  induction n with
  | zero => have : m = 0 := by omega
            subst this; exact Int.le_refl _
  | succ n ih =>
    by_cases q : m ≤ n
    · have h1 := ih q
      have h2 := (bsx_bit (x >>> (nI n &&& 31))).1
      show _ ≤ bsx x n + _
      omega
    · have : m = n + 1 := by omega
      subst this; exact Int.le_refl _
theorem bsx_lo (x : Int32) (n : Nat) : 0 ≤ bsx x n := bsx_mono (m := 0) (Nat.zero_le n)
theorem nI_clamp_of {w : Int32} (h : 0 ≤ w.toInt) : w = nI w.toNatClampNeg := by
  obtain ⟨j, hj, e⟩ := nI_of (x := w) (by rw [fa_lt]; have h0 : (0 : Int32).toInt = 0 := (by decide); omega)
  subst e
  rw [nI_clamp hj]
theorem pw_aux (x : Int) (n : Nat) (hx : 0 < x ∧ x ≤ 65535) (hn : n ≤ 15) (hm : x % ((2 ^ n : Nat) : Int) = 0) (hb : x / ((2 ^ n : Nat) : Int) % 2 = 0) : n ≤ 14 ∧ x % ((2 ^ (n + 1) : Nat) : Int) = 0 := by
  rcases (show n = 0 ∨ n = 1 ∨ n = 2 ∨ n = 3 ∨ n = 4 ∨ n = 5 ∨ n = 6 ∨ n = 7 ∨ n = 8 ∨ n = 9 ∨ n = 10 ∨ n = 11 ∨ n = 12 ∨ n = 13 ∨ n = 14 ∨ n = 15 by omega) with q | q | q | q | q | q | q | q | q | q | q | q | q | q | q | q <;> subst q <;> simp only [Nat.reducePow, Nat.reduceAdd] at * <;> omega
theorem pw_step {x w s b : Int32} (e1 : s = x >>> (w &&& 31)) (e2 : b = s &&& 1) (hb : b = 0) (hx : (1 : Int) ≤ x.toInt ∧ x.toInt ≤ 65535) (hw : (0 : Int) ≤ w.toInt ∧ w.toInt ≤ 15) (hm : x.toInt % ((2 ^ w.toInt.toNat : Nat) : Int) = 0) : w.toInt ≤ 14 ∧ x.toInt % ((2 ^ (w.toInt.toNat + 1) : Nat) : Int) = 0 := by
  have h1 := bit_of e1 e2 (by omega) ⟨hw.1, by omega⟩
  rw [hb] at h1
  have h0 : (0 : Int32).toInt = 0 := by decide
  obtain ⟨a1, a2⟩ := pw_aux x.toInt w.toInt.toNat ⟨by omega, hx.2⟩ (by omega) hm (by omega)
  exact ⟨by omega, a2⟩
-- orders
def DSx (h : Nat → Nat → Value) (a : Nat) : Prop := ∀ i j : Nat, i < j → (j : Int) < gi h a 57 → mA h a 58 i ≠ mA h a 58 j
def OIx (h : Nat → Nat → Value) (a : Nat) (w : Int) : Prop := (∀ i j : Nat, i < j → (j : Int) < gi h a 57 → mA h a 58 i < mA h a 58 j) ∧ (∀ i : Nat, (i : Int) < gi h a 57 → mA h a 58 i < w)
def LXx (f g : Nat → Int) (i : Nat) : Prop := (∀ k, k < i → g k = f k) ∧ f i < g i
def VOx (f : Nat → Int) : Int := f 0 * 1048576 + f 1 * 65536 + f 2 * 4096 + f 3 * 256 + f 4 * 16 + f 5
section ORD
variable {K : Nat → Nat} {h u : Nat → Nat → Value} {a : Nat}
theorem DSx_fr {ws : List Nat} (ok : Ok K h) (hk : K a = 13) (F : Fr ws K h u) (hd : ([13057, 13058, 96000] : List Nat).all (fun c => !(ws.contains c)) = true) (D : DSx h a) : DSx u a := by
  have hn : ∀ c, c ∈ ([13057, 13058, 96000] : List Nat) → ws.contains c = false := fun c hc => by
    have := List.all_eq_true.mp hd c hc
    simpa using this
  obtain ⟨b8, e8, k8⟩ := rd_13058 ok hk
  unfold DSx
  rw [mA_fr (c0 := 0) e8 k8 hk F (hn _ (by decide)) (hn _ (by decide)) (by decide), gi_fr hk F (hn _ (by decide))]
  exact D
theorem OIx.ds {w : Int} (O : OIx h a w) : DSx h a := fun i j hij hj => by
  have := O.1 i j hij hj
  omega
theorem OIx_zero {w : Int} (e : gi h a 57 = 0) : OIx h a w := ⟨fun i j _ hj => by omega, fun i hi => by omega⟩
theorem OIx_same {w w1 : Int} (O : OIx h a w) (hw : w ≤ w1) (e : mA u a 58 = mA h a 58) (e2 : gi u a 57 = gi h a 57) : OIx u a w1 := by
  unfold OIx
  rw [e, e2]
  exact ⟨O.1, fun i hi => by have := O.2 i hi; omega⟩
theorem OIx_put {w : Int} {i : Nat} (O : OIx h a w) (e : mA u a 58 = updI (mA h a 58) i w) (hi : (i : Int) = gi h a 57) (e2 : gi u a 57 = gi h a 57 + 1) : OIx u a (w + 1) := by
  unfold OIx
  rw [e, e2]
  refine ⟨fun p q hpq hq => ?_, fun p hp => ?_⟩
  · by_cases hqi : q = i
    · subst hqi
      rw [updI_s, updI_n (by omega)]
      exact O.2 p (by omega)
    · rw [updI_n hqi, updI_n (by omega)]
      exact O.1 p q hpq (by omega)
  · by_cases hpi : p = i
    · subst hpi
      rw [updI_s]; omega
    · rw [updI_n hpi]
      have := O.2 p (by omega)
      omega
theorem DSx_swap {i j : Nat} {xi xj : Int} (D : DSx h a) (e : mA u a 58 = updI (updI (mA h a 58) i xj) j xi) (hxi : mA h a 58 i = xi) (hxj : mA h a 58 j = xj) (hij : i < j) (hj : (j : Int) < gi h a 57) (e2 : gi u a 57 = gi h a 57) : DSx u a := by
  subst hxi; subst hxj
  have S : ∀ p q : Nat, p ≠ q → (p : Int) < gi h a 57 → (q : Int) < gi h a 57 → mA h a 58 p ≠ mA h a 58 q := fun p q ne hp hq => by
    rcases Nat.lt_or_gt_of_ne ne with l | l
    · exact D p q l hq
    · exact (D q p l hp).symm
  unfold DSx
  rw [e, e2]
  intro p q hpq hq
  unfold updI
  repeat' split
  all_goals exact S _ _ (by omega) (by omega) (by omega)
theorem LXx_first {f g : Nat → Int} {i j : Nat} {x y : Int} (e : g = updI (updI f i x) j y) (hij : i < j) (hl : f i < x) : LXx f g i := by
  subst e
  refine ⟨fun k hk => ?_, ?_⟩
  · rw [updI_n (by omega), updI_n (by omega)]
  · rw [updI_n (by omega), updI_s]; exact hl
theorem LXx_more {f g g1 : Nat → Int} {i p q : Nat} {x y : Int} (L : LXx f g i) (e : g1 = updI (updI g p x) q y) (hp : i < p) (hq : i < q) : LXx f g1 i := by
  subst e
  refine ⟨fun k hk => ?_, ?_⟩
  · rw [updI_n (by omega), updI_n (by omega)]; exact L.1 k hk
  · rw [updI_n (by omega), updI_n (by omega)]; exact L.2
theorem VOx_lt {f g : Nat → Int} {i : Nat} (hf : ∀ k, 0 ≤ f k ∧ f k ≤ 15) (hg : ∀ k, 0 ≤ g k ∧ g k ≤ 15) (hi : i < 6) (L : LXx f g i) : VOx f < VOx g := by
  have f0 := hf 0; have f1 := hf 1; have f2 := hf 2; have f3 := hf 3; have f4 := hf 4; have f5 := hf 5
  have g0 := hg 0; have g1 := hg 1; have g2 := hg 2; have g3 := hg 3; have g4 := hg 4; have g5 := hg 5
  have e0 := L.1 0; have e1 := L.1 1; have e2 := L.1 2; have e3 := L.1 3; have e4 := L.1 4
  have el := L.2
  unfold VOx
  rcases (show i = 0 ∨ i = 1 ∨ i = 2 ∨ i = 3 ∨ i = 4 ∨ i = 5 by omega) with q | q | q | q | q | q <;> subst q <;> omega
theorem VOx_le {f : Nat → Int} (hf : ∀ k, 0 ≤ f k ∧ f k ≤ 15) : 0 ≤ VOx f ∧ VOx f ≤ 16777215 := by
  have f0 := hf 0; have f1 := hf 1; have f2 := hf 2; have f3 := hf 3; have f4 := hf 4; have f5 := hf 5
  unfold VOx
  omega
theorem ord_b (ok : Ok K h) (hk : K a = 13) : ∀ k, 0 ≤ mA h a 58 k ∧ mA h a 58 k ≤ 15 := by
  obtain ⟨b, e, kb⟩ := rd_13058 ok hk
  intro k
  obtain ⟨z, ez, hz⟩ := rd_96000 ok kb k
  rw [mA_of e ez]
  exact hz
end ORD
-- rows of words said between readings
def SBx (f : Nat → Int) (d : Int) : Prop := ∀ q : Nat, (q : Int) ≤ d → f q ≤ 15
def VBx (f : Nat → Int) (d : Int) : Int := (if 0 ≤ d then f 0 + 1 else 17) * 104976 + (if 1 ≤ d then f 1 + 1 else 17) * 5832 + (if 2 ≤ d then f 2 + 1 else 17) * 324 + (if 3 ≤ d then f 3 + 1 else 17) * 18 + (if 4 ≤ d then f 4 + 1 else 17)
theorem VBx_le {f : Nat → Int} {d : Int} (hf : ∀ k, -1 ≤ f k ∧ f k ≤ 16) : VBx f d ≤ 1999999 := by
  have f0 := hf 0; have f1 := hf 1; have f2 := hf 2; have f3 := hf 3; have f4 := hf 4
  unfold VBx
  repeat' split
  all_goals omega
theorem VBx_stay {f g : Nat → Int} {d : Int} {i : Nat} (hi : (i : Int) = d) (h4 : d ≤ 4) (e : g = updI f i (f i + 1)) : VBx f d < VBx g d := by
  subst e; subst hi
  rcases (show i = 0 ∨ i = 1 ∨ i = 2 ∨ i = 3 ∨ i = 4 by omega) with q | q | q | q | q <;> subst q <;> simp [VBx, updI] <;> omega
theorem VBx_down {f g : Nat → Int} {d d1 : Int} {i : Nat} (hi : (i : Int) = d) (h4 : d ≤ 4) (e : g = updI f i (f i + 1)) (hd : d1 = d - 1) (hf : f i ≤ 15) : VBx f d < VBx g d1 := by
  subst e; subst hi; subst hd
  rcases (show i = 0 ∨ i = 1 ∨ i = 2 ∨ i = 3 ∨ i = 4 by omega) with q | q | q | q | q <;> subst q <;> simp [VBx, updI] <;> omega
theorem VBx_up {f g : Nat → Int} {d d1 : Int} {i j : Nat} (hi : (i : Int) = d) (h4 : d ≤ 3) (hd : d1 = d + 1) (hj : (j : Int) = d1) (e : g = updI (updI f i (f i + 1)) j (-1)) : VBx f d < VBx g d1 := by
  subst e; subst hi; subst hd
  have ej : j = i + 1 := by omega
  subst ej
  rcases (show i = 0 ∨ i = 1 ∨ i = 2 ∨ i = 3 by omega) with q | q | q | q <;> subst q <;> simp [VBx, updI] <;> omega
theorem SBx_put {f : Nat → Int} {d d1 x : Int} {i : Nat} (S : SBx f d) (hd : d1 ≤ d) (hx : x ≤ 15 ∨ d1 < i) : SBx (updI f i x) d1 := by
  intro q hq
  by_cases e : q = i
  · subst e; rw [updI_s]; omega
  · rw [updI_n e]; exact S q (by omega)
theorem SBx_up {f : Nat → Int} {d d1 x : Int} {i j : Nat} (S : SBx f d) (hd : d1 ≤ d + 1) (hj : (j : Int) = d1) (hx : x ≤ 15) : SBx (updI (updI f i x) j (-1)) d1 := by
  intro q hq
  by_cases e : q = j
  · subst e; rw [updI_s]; omega
  · rw [updI_n e]
    by_cases e2 : q = i
    · subst e2; rw [updI_s]; exact hx
    · rw [updI_n e2]; exact S q (by omega)
theorem said_b {K : Nat → Nat} {h : Nat → Nat → Value} {a : Nat} (ok : Ok K h) (hk : K a = 13) : ∀ k, -1 ≤ mA h a 56 k ∧ mA h a 56 k ≤ 16 := by
  obtain ⟨b, e, kb⟩ := rd_13056 ok hk
  intro k
  obtain ⟨z, ez, hz⟩ := rd_95000 ok kb k
  rw [mA_of e ez]
  exact hz
