-- what waits while an expression is read
def updI (f : Nat → Int) (i : Nat) (v : Int) : Nat → Int := fun j => if j = i then v else f j
theorem updI_s {f : Nat → Int} {i : Nat} {v : Int} : updI f i v i = v := by simp [updI]
theorem updI_n {f : Nat → Int} {i j : Nat} {v : Int} (h : j ≠ i) : updI f i v j = f j := by simp [updI, h]
def wo (w : Nat → Int) : Nat → Nat
  | 0 => 0
  | n + 1 => wo w n + (if w n = 6 then 1 else 0)
def wt (w : Nat → Int) : Nat → Nat
  | 0 => 0
  | n + 1 => if w n = 6 then 0 else if w n = 8 ∨ w n = 9 then 1 else 2
def wg (w : Nat → Int) : Nat → Prop
  | 0 => True
  | n + 1 => wg w n ∧ (w n = 6 ∨ ((w n = 8 ∨ w n = 9) ∧ wt w n = 0) ∨ ((w n ≠ 6 ∧ w n ≠ 8 ∧ w n ≠ 9) ∧ wt w n ≤ 1))
theorem wt_succ (w : Nat → Int) (n : Nat) : wt w (n + 1) = if w n = 6 then 0 else if w n = 8 ∨ w n = 9 then 1 else 2 := rfl
theorem wo_succ (w : Nat → Int) (n : Nat) : wo w (n + 1) = wo w n + (if w n = 6 then 1 else 0) := rfl
theorem wt_le (w : Nat → Int) (n : Nat) : wt w n ≤ 2 := by
  cases n with
  | zero => exact Nat.zero_le _
  | succ n => rw [wt_succ]; repeat' split
              all_goals omega
theorem wo_le (w : Nat → Int) (n : Nat) : wo w n ≤ n := by
  induction n with
  | zero => exact Nat.le_refl _
  | succ n ih => unfold wo; split <;> omega
theorem w_bound {w : Nat → Int} {n : Nat} (h : wg w n) : n ≤ 3 * wo w n + wt w n := by
  induction n with
  | zero => exact Nat.zero_le _
  | succ n ih =>
    have h1 := ih h.1
    have h2 := wt_le w n
    have h3 := h.2
    rw [wo_succ, wt_succ]
    by_cases e : w n = 6
    · rw [if_pos e, if_pos e]; omega
    · rw [if_neg e, if_neg e]
      by_cases e2 : w n = 8 ∨ w n = 9
      · rw [if_pos e2]
        rcases h3 with q | q | q
        · exact absurd q e
        · omega
        · omega
      · rw [if_neg e2]
        rcases h3 with q | q | q
        · exact absurd q e
        · exact absurd q.1 e2
        · omega
theorem w_ext {w w1 : Nat → Int} {n : Nat} (h : ∀ i, i < n → w1 i = w i) : wo w1 n = wo w n ∧ wt w1 n = wt w n ∧ (wg w n → wg w1 n) := by
  induction n with
  | zero => exact ⟨rfl, rfl, fun _ => trivial⟩
  | succ n ih =>
    obtain ⟨a1, a2, a3⟩ := ih (fun i hi => h i (by omega))
    have e := h n (by omega)
    refine ⟨?_, ?_, fun q => ⟨a3 q.1, ?_⟩⟩
    · unfold wo; rw [a1, e]
    · rw [wt_succ, wt_succ, e]
    · rw [e, a2]; exact q.2
theorem dep_ext {f f1 : Nat → Int} {a n : Nat} (h : ∀ i, i < n → f1 (a + i) = f (a + i)) : dep f1 a n = dep f a n := by
  induction n with
  | zero => rfl
  | succ n ih =>
    show dep f1 a n + _ = dep f a n + _
    rw [ih (fun i hi => h i (by omega)), h n (by omega)]
theorem cf_ext {f f1 g g1 : Nat → Int} {a n : Nat} (h : ∀ i, i < n → f1 (a + i) = f (a + i)) (h2 : ∀ i, i < n → g1 (a + i) = g (a + i)) (c : CF f g a n) : CF f1 g1 a n := by
  intro k hk
  rw [dep_ext (f := f) (f1 := f1) (n := k + 1) (fun i hi => h i (by omega)), h k hk, h2 k hk]
  exact c k hk
def EIp (w : Nat → Int) (n o : Int) (f g : Nat → Int) (c0 c ph : Int) : Prop := 0 ≤ n ∧ wg w n.toNat ∧ (wo w n.toNat : Int) = o ∧ 0 ≤ c0 ∧ c0 ≤ c ∧ dep f c0.toNat (c - c0).toNat = n - o + ph ∧ CF f g c0.toNat (c - c0).toNat
section EIP
variable {w f g : Nat → Int} {n o c0 c k v : Int}
theorem ei_lin {ph : Int} (h : EIp w n o f g c0 c ph) : 0 ≤ n ∧ 0 ≤ o ∧ o ≤ n ∧ n ≤ 3 * o + 2 ∧ 0 ≤ c0 ∧ c0 ≤ c := by
  obtain ⟨h1, h2, h3, h4, h5, h6, h7⟩ := h
  have a1 := w_bound h2
  have a2 := wt_le w n.toNat
  have a3 := wo_le w n.toNat
  omega
theorem ei_zero (hc : 0 ≤ c) : EIp w 0 0 f g c c 0 := by
  refine ⟨Int.le_refl _, trivial, rfl, hc, Int.le_refl _, ?_, ?_⟩
  · rw [Int.sub_self]; rfl
  · rw [Int.sub_self]
    intro k hk
    exact absurd hk (Nat.not_lt_zero _)
theorem ei_open (h : EIp w n o f g c0 c 0) : EIp (updI w n.toNat 6) (n + 1) (o + 1) f g c0 c 0 := by
  obtain ⟨h1, h2, h3, h4, h5, h6, h7⟩ := h
  have e : (n + 1).toNat = n.toNat + 1 := by omega
  obtain ⟨a1, a2, a3⟩ := w_ext (w := w) (w1 := updI w n.toNat 6) (n := n.toNat) (fun i hi => updI_n (by omega))
  refine ⟨by omega, ?_, ?_, h4, h5, by omega, h7⟩
  · rw [e]; exact ⟨a3 h2, Or.inl updI_s⟩
  · rw [e]; unfold wo; rw [a1, updI_s, if_pos rfl]; omega
theorem ei_emit (h4 : 0 ≤ c0) (h5 : c0 ≤ c) (h7 : CF f g c0.toNat (c - c0).toNat) (hd : 1 ≤ dep f c0.toNat (c - c0).toNat + (if k < 2 then 1 else -1) ∧ dep f c0.toNat (c - c0).toNat + (if k < 2 then 1 else -1) ≤ 40) (hv : k < 2 → k = 0 ∨ (0 ≤ v ∧ v ≤ 4)) : CF (updI f c.toNat k) (updI g c.toNat v) c0.toNat (c + 1 - c0).toNat ∧ dep (updI f c.toNat k) c0.toNat (c + 1 - c0).toNat = dep f c0.toNat (c - c0).toNat + (if k < 2 then 1 else -1) := by
  have e : (c + 1 - c0).toNat = (c - c0).toNat + 1 := by omega
  have e2 : c0.toNat + (c - c0).toNat = c.toNat := by omega
  have x1 : ∀ i, i < (c - c0).toNat → updI f c.toNat k (c0.toNat + i) = f (c0.toNat + i) := fun i hi => updI_n (by omega)
  have x2 : ∀ i, i < (c - c0).toNat → updI g c.toNat v (c0.toNat + i) = g (c0.toNat + i) := fun i hi => updI_n (by omega)
  have d1 : dep (updI f c.toNat k) c0.toNat ((c - c0).toNat + 1) = dep f c0.toNat (c - c0).toNat + (if k < 2 then 1 else -1) := by
    show dep (updI f c.toNat k) c0.toNat (c - c0).toNat + _ = _
    rw [dep_ext x1, e2, updI_s]
  rw [e]
  refine ⟨?_, d1⟩
  intro i hi
  by_cases q : i < (c - c0).toNat
  · exact cf_ext x1 x2 h7 i q
  · have ei : i = (c - c0).toNat := by omega
    subst ei
    rw [d1, e2, updI_s, updI_s]
    exact ⟨hd, hv⟩
theorem ei_unit (h : EIp w n o f g c0 c 0) (ho : o ≤ 7) (hk : k = 0 ∨ (k = 1 ∧ 0 ≤ v ∧ v ≤ 4)) : EIp w n o (updI f c.toNat k) (updI g c.toNat v) c0 (c + 1) 1 := by
  have hl := ei_lin h
  obtain ⟨h1, h2, h3, h4, h5, h6, h7⟩ := h
  have hk2 : k < 2 := by omega
  obtain ⟨a1, a2⟩ := ei_emit (k := k) (v := v) h4 h5 h7 (by rw [if_pos hk2]; omega) (by omega)
  rw [if_pos hk2] at a2
  exact ⟨h1, h2, h3, h4, by omega, by omega, a1⟩
theorem ei_down (h2 : wg w n.toNat) (hn : 0 < n) : wg w (n - 1).toNat ∧ wo w n.toNat = wo w (n - 1).toNat + (if w (n - 1).toNat = 6 then 1 else 0) := by
  have e : n.toNat = (n - 1).toNat + 1 := by omega
  rw [e] at h2 ⊢
  exact ⟨h2.1, rfl⟩
theorem ei_pop (h : EIp w n o f g c0 c 1) (ho : o ≤ 7) (hn : 0 < n) (ht : w (n - 1).toNat ≠ 6) (hk : 2 ≤ k) : EIp w (n - 1) o (updI f c.toNat k) (updI g c.toNat v) c0 (c + 1) 1 := by
  have hl := ei_lin h
  obtain ⟨h1, h2, h3, h4, h5, h6, h7⟩ := h
  obtain ⟨b1, b2⟩ := ei_down h2 hn
  rw [if_neg ht] at b2
  have b3 := wo_le w (n - 1).toNat
  have hk2 : ¬ k < 2 := by omega
  obtain ⟨a1, a2⟩ := ei_emit (k := k) (v := v) h4 h5 h7 (by rw [if_neg hk2]; omega) (fun q => absurd q hk2)
  rw [if_neg hk2] at a2
  exact ⟨by omega, b1, by omega, h4, by omega, by omega, a1⟩
theorem ei_top {ph : Int} (h : EIp w n o f g c0 c ph) (ho : 0 < o) : 0 < n := by
  have hl := ei_lin h
  omega
theorem ei_close (h : EIp w n o f g c0 c 1) (hn : 0 < n) (ht : w (n - 1).toNat = 6) : EIp w (n - 1) (o - 1) f g c0 c 1 := by
  obtain ⟨h1, h2, h3, h4, h5, h6, h7⟩ := h
  obtain ⟨b1, b2⟩ := ei_down h2 hn
  rw [if_pos ht] at b2
  exact ⟨by omega, b1, by omega, h4, h5, by omega, h7⟩
theorem wt_top {n : Int} (hn : 0 ≤ n) (ht : n = 0 ∨ w (n - 1).toNat = 6) : wt w n.toNat = 0 := by
  rcases ht with q | q
  · subst q; rfl
  · by_cases h0 : n = 0
    · subst h0; rfl
    · have e : n.toNat = (n - 1).toNat + 1 := by omega
      rw [e, wt_succ, if_pos q]
theorem wt_top2 {n : Int} (hn : 0 ≤ n) (ht : n = 0 ∨ w (n - 1).toNat = 6 ∨ w (n - 1).toNat = 8 ∨ w (n - 1).toNat = 9) : wt w n.toNat ≤ 1 := by
  by_cases h0 : n = 0
  · subst h0; exact Nat.zero_le _
  · have e : n.toNat = (n - 1).toNat + 1 := by omega
    rw [e, wt_succ]
    by_cases q : w (n - 1).toNat = 6
    · rw [if_pos q]; omega
    · rw [if_neg q, if_pos (by omega)]; omega
theorem ei_opr (h : EIp w n o f g c0 c 1) (ht : (n = 0 ∨ w (n - 1).toNat = 6) ∧ (k = 8 ∨ k = 9) ∨ (n = 0 ∨ w (n - 1).toNat = 6 ∨ w (n - 1).toNat = 8 ∨ w (n - 1).toNat = 9) ∧ (k = 10 ∨ k = 15)) : EIp (updI w n.toNat k) (n + 1) o f g c0 c 0 := by
  obtain ⟨h1, h2, h3, h4, h5, h6, h7⟩ := h
  have e : (n + 1).toNat = n.toNat + 1 := by omega
  obtain ⟨a1, a2, a3⟩ := w_ext (w := w) (w1 := updI w n.toNat k) (n := n.toNat) (fun i hi => updI_n (by omega))
  have k6 : ¬ k = 6 := by omega
  refine ⟨by omega, ?_, ?_, h4, h5, by omega, h7⟩
  · rw [e]
    refine ⟨a3 h2, Or.inr ?_⟩
    rw [updI_s, a2]
    rcases ht with ⟨q, r⟩ | ⟨q, r⟩
    · exact Or.inl ⟨r, wt_top h1 q⟩
    · exact Or.inr ⟨by omega, wt_top2 h1 q⟩
  · rw [e]; unfold wo; rw [a1, updI_s, if_neg k6]; omega
theorem ei_end (h : EIp w n o f g c0 c 1) : c0 < c ∧ CF f g c0.toNat (c - c0).toNat := by
  have hl := ei_lin h
  obtain ⟨h1, h2, h3, h4, h5, h6, h7⟩ := h
  refine ⟨?_, h7⟩
  rcases Int.lt_or_le c0 c with q | q
  · exact q
  · have : (c - c0).toNat = 0 := by omega
    rw [this] at h6
    have : (0 : Int) = n - o + 1 := h6
    omega
end EIP
-- in the heap
section HP
variable {K : Nat → Nat} {h h1 h2 h3 u : Nat → Nat → Value} {a b f : Nat} {z : Int32}
theorem mA_eq (e : h a f = .ref b) (e1 : h1 a f = .ref b) (er : h1 b = h b) : mA h1 a f = mA h a f := by
  funext i
  unfold mA
  rw [e1, e]
  show (vI (h1 b i)).toInt = (vI (h b i)).toInt
  rw [er]
theorem mA_up {i : Nat} (e : h a f = .ref b) (e1 : h1 a f = .ref b) (r1 : h2 b = h b) (eh : h3 = up2 h2 b i (.int z)) (r2 : h1 b = h3 b) : mA h1 a f = updI (mA h a f) i z.toInt := by
  funext j
  unfold mA updI
  rw [e1, e]
  show (vI (h1 b j)).toInt = if j = i then z.toInt else (vI (h b j)).toInt
  rw [r2, eh, up2_at, r1]
  show (vI (if j = i then Value.int z else h b j)).toInt = _
  by_cases q : j = i
  · rw [if_pos q, if_pos q]; rfl
  · rw [if_neg q, if_neg q]
theorem mA_fr {ws : List Nat} {c0 kf : Nat} (e : h a f = .ref b) (kb : K b = kf) (hk : K a = 13) (F : Fr ws K h u) (m1 : ws.contains (13 * 1000 + f) = false) (m2 : ws.contains (kf * 1000) = false) (h20 : ¬ kf < 20) : mA u a f = mA h a f :=
  mA_row e (Fr.at (cq := 13 * 1000 + f) F hk (cd_o (by decide)) m1) (fun i => Fr.at (cq := kf * 1000) F kb (cd_a h20) m2)
theorem gi_fr {ws : List Nat} (hk : K a = 13) (F : Fr ws K h u) (m1 : ws.contains (13 * 1000 + f) = false) : gi u a f = gi h a f := by
  unfold gi
  rw [Fr.at (cq := 13 * 1000 + f) F hk (cd_o (by decide)) m1]
theorem gi_put {j : Nat} (eh : h1 = up2 h a f (.int z)) : gi h1 a j = if j = f then z.toInt else gi h a j := by
  unfold gi
  by_cases q : j = f
  · subst q; rw [if_pos rfl, eh, up2_s]; rfl
  · rw [if_neg q, eh, up2_n (Or.inr q)]
theorem mA_puto {j : Nat} {v : Value} (eh : h1 = up2 h a j v) (e : h a f = .ref b) (hj : f ≠ j) (hab : b ≠ a) : mA h1 a f = mA h a f :=
  mA_eq e (by rw [eh, up2_n (Or.inr hj)]; exact e) (by rw [eh]; exact up2_row hab)
def EIx (h : Nat → Nat → Value) (a : Nat) (c0 ph : Int) : Prop := EIp (mA h a 44) (gi h a 45) (gi h a 12) (mA h a 39) (mA h a 40) c0 (gi h a 38) ph
def EMI (h u : Nat → Nat → Value) (a : Nat) (k v : Int32) : Prop := mA u a 39 = updI (mA h a 39) (gi h a 38).toNat k.toInt ∧ mA u a 40 = updI (mA h a 40) (gi h a 38).toNat v.toInt ∧ gi u a 38 = gi h a 38 + 1
theorem EI_fr {c0 ph : Int} {ws : List Nat} (ok : Ok K h) (hk : K a = 13) (F : Fr ws K h u) (hd : ([13044, 13045, 13012, 13039, 13040, 13038, 89000, 84000, 85000] : List Nat).all (fun c => !(ws.contains c)) = true) (E : EIx h a c0 ph) : EIx u a c0 ph := by
  have hn : ∀ c, c ∈ ([13044, 13045, 13012, 13039, 13040, 13038, 89000, 84000, 85000] : List Nat) → ws.contains c = false := fun c hc => by
    have := List.all_eq_true.mp hd c hc
    simpa using this
  obtain ⟨b4, e4, k4⟩ := rd_13044 ok hk
  obtain ⟨b9, e9, k9⟩ := rd_13039 ok hk
  obtain ⟨b0, e0, k0⟩ := rd_13040 ok hk
  unfold EIx
  rw [mA_fr (c0 := 0) e4 k4 hk F (hn _ (by decide)) (hn _ (by decide)) (by decide), mA_fr (c0 := 0) e9 k9 hk F (hn _ (by decide)) (hn _ (by decide)) (by decide), mA_fr (c0 := 0) e0 k0 hk F (hn _ (by decide)) (hn _ (by decide)) (by decide), gi_fr hk F (hn _ (by decide)), gi_fr hk F (hn _ (by decide)), gi_fr hk F (hn _ (by decide))]
  exact E
theorem EI_lin {c0 ph : Int} (E : EIx h a c0 ph) : 0 ≤ gi h a 45 ∧ 0 ≤ gi h a 12 ∧ gi h a 12 ≤ gi h a 45 ∧ gi h a 45 ≤ 3 * gi h a 12 + 2 ∧ 0 ≤ c0 ∧ c0 ≤ gi h a 38 := ei_lin E
theorem EI_unit {c0 : Int} {k v : Int32} (ok : Ok K h) (hk : K a = 13) (E : EIx h a c0 0) (m : EMI h u a k v) (F : Fr [13038, 84000, 85000] K h u) (hv : k.toInt = 0 ∨ (k.toInt = 1 ∧ 0 ≤ v.toInt ∧ v.toInt ≤ 4)) : EIx u a c0 1 := by
  obtain ⟨b4, e4, k4⟩ := rd_13044 ok hk
  obtain ⟨z, ez, hz⟩ := rd_13012 ok hk
  unfold EIx
  rw [m.1, m.2.1, m.2.2, mA_fr (c0 := 0) e4 k4 hk F (by decide) (by decide) (by decide), gi_fr hk F (by decide), gi_fr hk F (by decide)]
  exact ei_unit E (by rw [gi_of ez]; exact hz.2) hv
theorem EI_pop {c0 : Int} {k v z : Int32} (ok : Ok K h) (hk : K a = 13) (E : EIx h a c0 1) (eh : h1 = up2 h a 45 (.int z)) (hz : z.toInt = gi h a 45 - 1) (m : EMI h1 u a k v) (F : Fr [13038, 84000, 85000] K h1 u) (hn : 0 < gi h a 45) (ht : mA h a 44 (gi h a 45 - 1).toNat ≠ 6) (hv : 2 ≤ k.toInt) : EIx u a c0 1 := by
  obtain ⟨b4, e4, k4⟩ := rd_13044 ok hk
  obtain ⟨b9, e9, k9⟩ := rd_13039 ok hk
  obtain ⟨b0, e0, k0⟩ := rd_13040 ok hk
  obtain ⟨z2, ez, hz2⟩ := rd_13012 ok hk
  have e41 : h1 a 44 = .ref b4 := by rw [eh, up2_n (Or.inr (by decide))]; exact e4
  unfold EIx
  rw [m.1, m.2.1, m.2.2, mA_fr (c0 := 0) e41 k4 hk F (by decide) (by decide) (by decide), gi_fr hk F (by decide), gi_fr hk F (by decide), gi_put eh, gi_put eh, gi_put eh, mA_puto eh e4 (by decide) (kd_ne k4 hk (by decide)), mA_puto eh e9 (by decide) (kd_ne k9 hk (by decide)), mA_puto eh e0 (by decide) (kd_ne k0 hk (by decide))]
  rw [if_pos rfl, if_neg (by decide), if_neg (by decide), hz]
  exact ei_pop E (by rw [gi_of ez]; exact hz2.2) hn ht hv
theorem EI_close {c0 : Int} (E : EIx h a c0 1) (hn : 0 < gi h a 45) (ht : mA h a 44 (gi h a 45 - 1).toNat = 6) (e1 : mA u a 44 = mA h a 44) (e2 : gi u a 45 = gi h a 45 - 1) (e3 : gi u a 12 = gi h a 12 - 1) (e4 : mA u a 39 = mA h a 39) (e5 : mA u a 40 = mA h a 40) (e6 : gi u a 38 = gi h a 38) : EIx u a c0 1 := by
  unfold EIx
  rw [e1, e2, e3, e4, e5, e6]
  exact ei_close E hn ht
theorem EI_open {c0 : Int} {i : Nat} (E : EIx h a c0 0) (e1 : mA u a 44 = updI (mA h a 44) i 6) (hi : (i : Int) = gi h a 45) (e2 : gi u a 45 = gi h a 45 + 1) (e3 : gi u a 12 = gi h a 12 + 1) (e4 : mA u a 39 = mA h a 39) (e5 : mA u a 40 = mA h a 40) (e6 : gi u a 38 = gi h a 38) : EIx u a c0 0 := by
  unfold EIx
  have ei : i = (gi h a 45).toNat := by omega
  rw [e1, e2, e3, e4, e5, e6, ei]
  exact ei_open E
theorem EI_opr {c0 : Int} {i : Nat} {k : Int} (E : EIx h a c0 1) (ht : (gi h a 45 = 0 ∨ mA h a 44 (gi h a 45 - 1).toNat = 6) ∧ (k = 8 ∨ k = 9) ∨ (gi h a 45 = 0 ∨ mA h a 44 (gi h a 45 - 1).toNat = 6 ∨ mA h a 44 (gi h a 45 - 1).toNat = 8 ∨ mA h a 44 (gi h a 45 - 1).toNat = 9) ∧ (k = 10 ∨ k = 15)) (e1 : mA u a 44 = updI (mA h a 44) i k) (hi : (i : Int) = gi h a 45) (e2 : gi u a 45 = gi h a 45 + 1) (e3 : gi u a 12 = gi h a 12) (e4 : mA u a 39 = mA h a 39) (e5 : mA u a 40 = mA h a 40) (e6 : gi u a 38 = gi h a 38) : EIx u a c0 0 := by
  unfold EIx
  have ei : i = (gi h a 45).toNat := by omega
  rw [e1, e2, e3, e4, e5, e6, ei]
  exact ei_opr E ht
theorem EI_zero (hn : gi h a 45 = 0) (ho : gi h a 12 = 0) (hc : 0 ≤ gi h a 38) : EIx h a (gi h a 38) 0 := by
  unfold EIx
  rw [hn, ho]
  exact ei_zero hc
/-- where comesOut stops -/
def COx (h : Nat → Nat → Value) (a : Nat) (st : Int32) : Prop := gi h a 45 = 0 ∨ mA h a 44 (gi h a 45 - 1).toNat = 6 ∨ (st.toInt = 1 ∧ (mA h a 44 (gi h a 45 - 1).toNat = 8 ∨ mA h a 44 (gi h a 45 - 1).toNat = 9))
/-- laws while a text is read -/
def LPx (h : Nat → Nat → Value) (a : Nat) : Prop := LSd h a (gi h a 18).toNat ∧ LSd h a (gi h a 19).toNat ∧ (∀ j, j < 2 → mA h a 35 (2 * (gi h a 19).toNat + j) = mA h a 36 (2 * (gi h a 19).toNat + j) ∨ mA h a 36 (2 * (gi h a 19).toNat + j) ≤ gi h a 38) ∧ gi h a 18 + gi h a 19 = 1 ∧ 0 ≤ gi h a 18 ∧ 0 ≤ gi h a 19 ∧ 420 * gi h a 19 ≤ gi h a 38
theorem LPx.lw (L : LPx h a) : LW h a := L.1
theorem LP_fr {ws : List Nat} (ok : Ok K h) (hk : K a = 13) (F : Fr ws K h u) (hd : ([13018, 13019, 13035, 13036, 13038, 13039, 13040, 81000, 82000, 84000, 85000] : List Nat).all (fun c => !(ws.contains c)) = true) (L : LPx h a) : LPx u a := by
  have hn : ∀ c, c ∈ ([13018, 13019, 13035, 13036, 13038, 13039, 13040, 81000, 82000, 84000, 85000] : List Nat) → ws.contains c = false := fun c hc => by
    have := List.all_eq_true.mp hd c hc
    simpa using this
  obtain ⟨b5, e5, k5⟩ := rd_13035 ok hk
  obtain ⟨b6, e6, k6⟩ := rd_13036 ok hk
  obtain ⟨b9, e9, k9⟩ := rd_13039 ok hk
  obtain ⟨b0, e0, k0⟩ := rd_13040 ok hk
  unfold LPx LSd
  rw [mA_fr (c0 := 0) e5 k5 hk F (hn _ (by decide)) (hn _ (by decide)) (by decide), mA_fr (c0 := 0) e6 k6 hk F (hn _ (by decide)) (hn _ (by decide)) (by decide), mA_fr (c0 := 0) e9 k9 hk F (hn _ (by decide)) (hn _ (by decide)) (by decide), mA_fr (c0 := 0) e0 k0 hk F (hn _ (by decide)) (hn _ (by decide)) (by decide), gi_fr hk F (hn _ (by decide)), gi_fr hk F (hn _ (by decide)), gi_fr hk F (hn _ (by decide))]
  exact L
theorem LS_ext {s : Nat} (e5 : mA u a 35 = mA h a 35) (e6 : mA u a 36 = mA h a 36) (L : LSd h a s) (hf : ∀ j, j < 2 → ∀ i : Nat, mA h a 35 (2 * s + j) ≤ i → (i : Int) < mA h a 36 (2 * s + j) → (420 * s : Nat) ≤ (i : Int) → (i : Int) < (420 * s + 402 : Nat) → mA u a 39 i = mA h a 39 i ∧ mA u a 40 i = mA h a 40 i) : LSd u a s := by
  intro j hj
  rw [e5, e6]
  rcases L j hj with q | ⟨q1, q2, q3, q4⟩
  · exact Or.inl q
  · refine Or.inr ⟨q1, q2, q3, ?_⟩
    exact cf_ext (fun i hi => (hf j hj _ (by omega) (by omega) (by omega) (by omega)).1) (fun i hi => (hf j hj _ (by omega) (by omega) (by omega) (by omega)).2) q4
theorem LP_emit {k v : Int32} (ok : Ok K h) (hk : K a = 13) (L : LPx h a) (m : EMI h u a k v) (F : Fr [13038, 84000, 85000] K h u) (hc : gi h a 38 ≤ 420 * gi h a 19 + 401) : LPx u a := by
  obtain ⟨b5, e5, k5⟩ := rd_13035 ok hk
  obtain ⟨b6, e6, k6⟩ := rd_13036 ok hk
  have r5 := mA_fr (c0 := 0) e5 k5 hk F (by decide) (by decide) (by decide)
  have r6 := mA_fr (c0 := 0) e6 k6 hk F (by decide) (by decide) (by decide)
  have g8 : gi u a 18 = gi h a 18 := gi_fr hk F (by decide)
  have g9 : gi u a 19 = gi h a 19 := gi_fr hk F (by decide)
  obtain ⟨l1, l2, l3, l4, l5, l6, l7⟩ := L
  have n3 : ∀ i : Nat, (i : Int) ≠ gi h a 38 → mA u a 39 i = mA h a 39 i ∧ mA u a 40 i = mA h a 40 i := fun i hi => by
    rw [m.1, m.2.1]
    exact ⟨updI_n (by omega), updI_n (by omega)⟩
  refine ⟨?_, ?_, ?_, by omega, by omega, by omega, by have := m.2.2; omega⟩
  · rw [g8]
    refine LS_ext r5 r6 l1 (fun j hj i h1 h2 h3 h4 => n3 i ?_)
    have t1 : ((gi h a 18).toNat : Int) = gi h a 18 := by omega
    rcases Int.lt_or_le (gi h a 18) 1 with q | q
    · have z8 : gi h a 18 = 0 := by omega
      rw [z8] at h3 h4
      simp at h3 h4
      omega
    · have z8 : gi h a 18 = 1 := by omega
      rw [z8] at h3 h4
      simp at h3 h4
      omega
  · rw [g9]
    refine LS_ext r5 r6 l2 (fun j hj i h1 h2 h3 h4 => n3 i ?_)
    rcases l3 j hj with q | q <;> omega
  · rw [g9, r5, r6]
    intro j hj
    rcases l3 j hj with q | q
    · exact Or.inl q
    · exact Or.inr (by have := m.2.2; omega)
/-- a law is told: its place in the rows -/
theorem LP_law {i : Nat} {x y : Int} (L : LPx h a) (hj : (i : Int) = 2 * gi h a 19 ∨ (i : Int) = 2 * gi h a 19 + 1) (e5 : mA u a 35 = updI (mA h a 35) i x) (e6 : mA u a 36 = updI (mA h a 36) i y) (e9 : mA u a 39 = mA h a 39) (e0 : mA u a 40 = mA h a 40) (g8 : gi u a 18 = gi h a 18) (g9 : gi u a 19 = gi h a 19) (gc : gi u a 38 = gi h a 38) : LW u a ∧ (420 * gi h a 19 ≤ x → x < y → y ≤ 420 * gi h a 19 + 402 → y ≤ gi h a 38 → CF (mA h a 39) (mA h a 40) x.toNat (y - x).toNat → LPx u a) := by
  obtain ⟨l1, l2, l3, l4, l5, l6, l7⟩ := L
  have hv : LSd u a (gi u a 18).toNat := by
    rw [g8]
    intro j hj2
    have n1 : 2 * (gi h a 18).toNat + j ≠ i := by omega
    rw [e5, e6, e9, e0, updI_n n1, updI_n n1]
    exact l1 j hj2
  refine ⟨hv, fun hx hxy hy hyc hcf => ⟨hv, ?_, ?_, by omega, by omega, by omega, by omega⟩⟩
  · rw [g9]
    intro j hj2
    by_cases q : 2 * (gi h a 19).toNat + j = i
    · rw [e5, e6, e9, e0, q, updI_s, updI_s]
      exact Or.inr ⟨by omega, hxy, by omega, hcf⟩
    · rw [e5, e6, e9, e0, updI_n q, updI_n q]
      exact l2 j hj2
  · rw [g9, gc]
    intro j hj2
    by_cases q : 2 * (gi h a 19).toNat + j = i
    · rw [e5, e6, q, updI_s, updI_s]
      exact Or.inr hyc
    · rw [e5, e6, updI_n q, updI_n q]
      exact l3 j hj2
end HP
section HP2
variable {K : Nat → Nat} {h h0 h1 u : Nat → Nat → Value} {a : Nat}
theorem CO_6 {st : Int32} (c : COx h a st) (hs : st.toInt ≠ 1) (hn : 0 < gi h a 45) : mA h a 44 (gi h a 45 - 1).toNat = 6 := by
  rcases c with q | q | q
  · omega
  · exact q
  · exact absurd q.1 hs
theorem CO_opr {st : Int32} {k : Int} (c : COx h a st) (hs : (st.toInt = 0 ∧ (k = 8 ∨ k = 9)) ∨ (k = 10 ∨ k = 15)) : (gi h a 45 = 0 ∨ mA h a 44 (gi h a 45 - 1).toNat = 6) ∧ (k = 8 ∨ k = 9) ∨ (gi h a 45 = 0 ∨ mA h a 44 (gi h a 45 - 1).toNat = 6 ∨ mA h a 44 (gi h a 45 - 1).toNat = 8 ∨ mA h a 44 (gi h a 45 - 1).toNat = 9) ∧ (k = 10 ∨ k = 15) := by
  unfold COx at c
  omega
theorem CFt {x : Int} (hc : gi h1 a 13 = 0 → gi h0 a 38 < gi h1 a 38 ∧ CF (mA h1 a 39) (mA h1 a 40) (gi h0 a 38).toNat (gi h1 a 38 - gi h0 a 38).toNat) (f0 : gi h a 13 = 0 → gi h1 a 13 = 0) (e9 : mA h a 39 = mA h1 a 39) (e0 : mA h a 40 = mA h1 a 40) (ec : gi h a 38 = gi h1 a 38) (hx : x = gi h0 a 38) : gi h a 13 = 0 → x < gi h a 38 ∧ CF (mA h a 39) (mA h a 40) x.toNat (gi h a 38 - x).toNat := by
  intro q
  rw [e9, e0, ec, hx]
  exact hc (f0 q)
theorem LP_start {i0 i1 j0 j1 : Nat} (L : LW h a) (e5 : mA u a 35 = updI (updI (mA h a 35) i0 0) i1 0) (e6 : mA u a 36 = updI (updI (mA h a 36) j0 0) j1 0) (q0 : (i0 : Int) = 2 * gi u a 19) (q1 : (i1 : Int) = 2 * gi u a 19 + 1) (r0 : (j0 : Int) = 2 * gi u a 19) (r1 : (j1 : Int) = 2 * gi u a 19 + 1) (e9 : mA u a 39 = mA h a 39) (e0 : mA u a 40 = mA h a 40) (g8 : gi u a 18 = gi h a 18) (g9 : gi u a 19 = 1 - gi h a 18) (gc : gi u a 38 = 420 * gi u a 19) (hb : (0 : Int) ≤ gi h a 18 ∧ gi h a 18 ≤ 1) : LPx u a := by
  have s1 : ∀ j, j < 2 → mA u a 35 (2 * (gi u a 19).toNat + j) = 0 ∧ mA u a 36 (2 * (gi u a 19).toNat + j) = 0 := by
    intro j hj
    rw [e5, e6]
    rcases (show j = 0 ∨ j = 1 by omega) with q | q
    · subst q
      rw [show 2 * (gi u a 19).toNat + 0 = i0 by omega, updI_n (show i0 ≠ i1 by omega), updI_s, show i0 = j0 by omega, updI_n (show j0 ≠ j1 by omega), updI_s]
      exact ⟨rfl, rfl⟩
    · subst q
      rw [show 2 * (gi u a 19).toNat + 1 = i1 by omega, updI_s, show i1 = j1 by omega, updI_s]
      exact ⟨rfl, rfl⟩
  refine ⟨?_, ?_, ?_, by omega, by omega, by omega, by omega⟩
  · rw [g8]
    intro j hj
    have n1 : 2 * (gi h a 18).toNat + j ≠ i0 := by omega
    have n2 : 2 * (gi h a 18).toNat + j ≠ i1 := by omega
    have n3 : 2 * (gi h a 18).toNat + j ≠ j0 := by omega
    have n4 : 2 * (gi h a 18).toNat + j ≠ j1 := by omega
    rw [e5, e6, e9, e0, updI_n n2, updI_n n1, updI_n n4, updI_n n3]
    exact L j hj
  · intro j hj
    have := s1 j hj
    exact Or.inl (by omega)
  · intro j hj
    have := s1 j hj
    exact Or.inl (by omega)
theorem LPi_fr {ws : List Nat} (ok : Ok K h) (hk : K a = 13) (F : Fr ws K h u) (hd : ([13018, 13019, 13035, 13036, 13038, 13039, 13040, 81000, 82000, 84000, 85000, 13013] : List Nat).all (fun c => !(ws.contains c)) = true) (L : gi h a 13 = 0 → LPx h a) : gi u a 13 = 0 → LPx u a := by
  intro q
  have hn : ∀ c, c ∈ ([13018, 13019, 13035, 13036, 13038, 13039, 13040, 81000, 82000, 84000, 85000, 13013] : List Nat) → ws.contains c = false := fun c hc => by
    have := List.all_eq_true.mp hd c hc
    simpa using this
  rw [gi_fr hk F (hn _ (by decide))] at q
  refine LP_fr ok hk F ?_ (L q)
  rw [List.all_eq_true] at hd ⊢
  exact fun c hc => hd c (List.mem_append_left [13013] hc)
theorem LW_live (L : LPx h a) (g : gi u a 18 = gi h a 19) (e5 : mA u a 35 = mA h a 35) (e6 : mA u a 36 = mA h a 36) (e9 : mA u a 39 = mA h a 39) (e0 : mA u a 40 = mA h a 40) : LW u a := by
  unfold LW LSd
  rw [g, e5, e6, e9, e0]
  exact L.2.1
end HP2
