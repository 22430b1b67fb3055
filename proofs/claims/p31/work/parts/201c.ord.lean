theorem clamp_zero : (0 : Int32).toNatClampNeg = 0 := by decide
theorem bsx_zero (x : Int32) : (0 : Int32).toInt = bsx x (0 : Int32).toNatClampNeg := by
  rw [clamp_zero]
  show (0 : Int32).toInt = 0
  decide
theorem bsx_next {x w s b n n1 w1 : Int32} (e1 : s = x >>> (w &&& 31)) (e2 : b = s &&& 1) (h0 : n.toInt = bsx x w.toNatClampNeg) (hw : 0 ≤ w.toInt) (hn : n1.toInt = n.toInt + b.toInt) (hw1 : w1.toInt = w.toInt + 1) : n1.toInt = bsx x w1.toNatClampNeg := by
  have h1 := clampN (x := w) hw
  have h2 := clampN (x := w1) (by omega)
  have e : w1.toNatClampNeg = w.toNatClampNeg + 1 := by omega
  rw [e, bsx_step e1 e2 (nI_clamp_of hw)]
  omega
theorem bsx_nextG {x w s b w1 : Int32} {g g1 : Int} (e1 : s = x >>> (w &&& 31)) (e2 : b = s &&& 1) (h0 : g = bsx x w.toNatClampNeg) (hw : 0 ≤ w.toInt) (hn : g1 = g + b.toInt) (hw1 : w1.toInt = w.toInt + 1) : g1 = bsx x w1.toNatClampNeg := by
  have h1 := clampN (x := w) hw
  have h2 := clampN (x := w1) (by omega)
  have e : w1.toNatClampNeg = w.toNatClampNeg + 1 := by omega
  rw [e, bsx_step e1 e2 (nI_clamp_of hw)]
  omega
theorem bsx_room {x w s b : Int32} (e1 : s = x >>> (w &&& 31)) (e2 : b = s &&& 1) (hw : 0 ≤ w.toInt ∧ w.toInt ≤ 15) (hb : b.toInt = 1) (hx : bsx x 16 ≤ 6) : bsx x w.toNatClampNeg ≤ 5 := by
  have h1 := clampN (x := w) hw.1
  have h2 := bsx_step e1 e2 (nI_clamp_of hw.1)
  have h3 := bsx_mono (x := x) (m := w.toNatClampNeg + 1) (n := 16) (by omega)
  omega
def bsf (x : Int32) : Int32 := nI (bsx x 16).toNat
theorem bsf_of {x r : Int32} (h : r.toInt = bsx x 16) : r = bsf x := by
  have h0 := bsx_lo x 16
  have h1 := nI_clamp_of (w := r) (by omega)
  have h2 := clampN (x := r) (by omega)
  have e : r.toNatClampNeg = (bsx x 16).toNat := by omega
  rw [e] at h1
  exact h1
theorem pw_zero (x : Int) : x % ((2 ^ (0 : Int32).toInt.toNat : Nat) : Int) = 0 := by
  have h : (0 : Int32).toInt.toNat = 0 := by decide
  rw [h]
  omega
theorem pw_step2 {x w s b : Int32} (e1 : s = x >>> (w &&& 31)) (e2 : b = s &&& 1) (hb : b.toInt = 0) (hx : (1 : Int) ≤ x.toInt ∧ x.toInt ≤ 65535) (hw : (0 : Int) ≤ w.toInt ∧ w.toInt ≤ 15) (hm : x.toInt % ((2 ^ w.toInt.toNat : Nat) : Int) = 0) : w.toInt ≤ 14 ∧ x.toInt % ((2 ^ (w.toInt.toNat + 1) : Nat) : Int) = 0 :=
  pw_step e1 e2 (Int32.toInt_inj.mp (hb.trans (by decide))) hx hw hm
theorem SBx_start {f g : Nat → Int} {i : Nat} (e : g = updI f i (-1)) (hi : i = 0) : SBx g (0 : Int32).toInt := by
  subst e; subst hi
  have h : (0 : Int32).toInt = 0 := by decide
  rw [h]
  intro q hq
  have : q = 0 := by omega
  subst this
  rw [updI_s]
  omega
