-- all that is the class's
def wsC : List Nat := [1000, 1001, 1002, 1003, 1004, 1005, 1006, 1007, 2000, 2001, 2002, 2003, 2004, 2005, 2006, 2007, 3000, 3001, 3002, 3003, 3004, 4000, 4001, 4002, 4003, 4004, 4005, 4006, 5000, 5001, 5002, 5003, 5004, 5005, 5006, 5007, 6000, 6001, 6002, 6003, 6004, 6005, 6006, 7000, 7001, 7002, 7003, 7004, 7005, 8000, 8001, 8002, 8003, 8004, 8005, 8006, 8007, 8008, 8009, 8010, 8011, 8012, 9000, 9001, 10000, 10001, 10002, 10003, 10004, 11000, 11001, 11002, 11003, 11004, 11005, 11006, 11007, 11008, 11009, 11010, 11011, 11012, 11013, 11014, 11015, 11016, 11017, 11018, 11019, 12000, 12001, 12002, 12003, 12004, 12005, 12006, 12007, 12008, 12009, 12010, 12011, 12012, 12013, 12014, 12015, 12016, 20000, 21000, 22000, 23000, 24000, 25000, 26000, 27000, 28000, 29000, 30000, 31000, 32000, 33000, 34000, 35000, 36000, 37000, 38000, 39000, 40000, 41000, 42000, 43000, 44000, 45000, 46000, 47000, 48000, 49000, 50000, 51000, 52000, 53000, 54000, 55000, 56000, 57000, 58000, 59000]
def NEWy (ws : List Nat) (K ln : Nat → Nat) (h : Nat → Nat → Value) (q k N : Nat) (K1 ln1 : Nat → Nat) (Ls1 : List Nat) (h1 : Nat → Nat → Value) : Prop := EXx K ln K1 ln1 ∧ SW K1 ln1 Ls1 ∧ Ok K1 h1 ∧ FrX ws K h h1 ∧ K1 q = k ∧ ln1 q = N ∧ ∀ a, K1 a ≠ 0 → a = q ∨ K1 a = K a
theorem uq_ext {K K1 : Nat → Nat} {q k : Nat} (uq : ∀ a b, K a = 4 → K b = 4 → a = b) (nw : ∀ a, K1 a ≠ 0 → a = q ∨ K1 a = K a) (kq : K1 q = k) (hk : k ≠ 4) : ∀ a b, K1 a = 4 → K1 b = 4 → a = b := by
  have f : ∀ a, K1 a = 4 → K a = 4 := fun a ha => by
    rcases nw a (by omega) with e | e
    · subst e; omega
    · omega
  exact fun a b ha hb => uq a b (f a ha) (f b hb)
theorem NSx_grown {K ln : Nat → Nat} {h : Nat → Nat → Value} {a n b0 b1 b2 b3 b4 b5 : Nat} (uq : ∀ a b, K a = 4 → K b = 4 → a = b) (hn : 256 ≤ n ∧ 2 * n ≤ 131072) (hk : K a = 4) (e0 : h a 0 = .ref b0) (l0 : ln b0 = 2 * n) (e1 : h a 1 = .ref b1) (l1 : ln b1 = 2 * n) (e2 : h a 2 = .ref b2) (l2 : ln b2 = 2 * n) (e3 : h a 3 = .ref b3) (l3 : ln b3 = 2 * n) (e4 : h a 4 = .ref b4) (l4 : ln b4 = 2 * n) (e5 : h a 5 = .ref b5) (l5 : ln b5 = 2 * (2 * n)) (hz : ∀ j, h b5 j = .int 0) (hs : gi h a 6 ≤ n) : NSx K ln h (2 * n) := by
  refine ⟨⟨by omega, by omega⟩, uq, fun c hc => ?_⟩
  obtain rfl : c = a := uq c a hc hk
  refine ⟨fun f b hf e => ?_, fun b e => ?_, by omega⟩
  · rcases (show f = 0 ∨ f = 1 ∨ f = 2 ∨ f = 3 ∨ f = 4 by omega) with q | q | q | q | q <;> subst q
    · rw [e0] at e; cases e; exact l0
    · rw [e1] at e; cases e; exact l1
    · rw [e2] at e; cases e; exact l2
    · rw [e3] at e; cases e; exact l3
    · rw [e4] at e; cases e; exact l4
  · rw [e5] at e
    cases e
    refine ⟨l5, fun i hi => ?_⟩
    rw [hz i]
    have h0 : (vI (.int 0)).toInt = 0 := by decide
    omega
theorem min_le2 {x y z : Int32} (e : z = if y < x then y else x) : z.toInt ≤ x.toInt ∧ z.toInt ≤ y.toInt := by
  by_cases q : y < x
  · rw [if_pos q] at e; subst e; rw [fa_lt] at q; omega
  · rw [if_neg q] at e; subst e; rw [fa_lt] at q; omega
