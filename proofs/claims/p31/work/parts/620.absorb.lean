-- a cell of any kind goes into the pool
def rowF (h : Nat → Nat → Value) (q : Nat) (r : Nat → Value) : Nat → Nat → Value := fun a j => if a = q then r j else h a j
theorem rowF_n {h : Nat → Nat → Value} {q a : Nat} {r : Nat → Value} (ha : a ≠ q) : rowF h q r a = h a := by
  funext j
  simp [rowF, ha]
theorem rowF_s {h : Nat → Nat → Value} {q : Nat} {r : Nat → Value} : rowF h q r q = r := by
  funext j
  simp [rowF]
section PUSHF
variable {G : va_G} {cy : Nat → ClassId} {A : Nat → Prop} {H1 : Heap} {K ln : Nat → Nat} {Ls : List Nat} {h : Nat → Nat → Value} {q k N : Nat} {r : Nat → Value} {e : va_E}
theorem pool_pushF (hP : va_P G vwCl (va_pl Ls (cellOf cy K ln h) ++ [(q, e)]) H1) (hD : va_D A (va_pl Ls (cellOf cy K ln h) ++ [(q, e)])) (hW : SW K ln Ls) (hlk : lk k ≠ 0 → N = lk k) (he : cellOf cy (upNx K q k) (upNx ln q N) (rowF h q r) q = e) : K q = 0 ∧ EXx K ln (upNx K q k) (upNx ln q N) ∧ PW G cy (upNx K q k) (upNx ln q N) (Ls ++ [q]) A (rowF h q r) H1 ∧ SW (upNx K q k) (upNx ln q N) (Ls ++ [q]) := by
  have hn := pool_new hD
  have hK : K q = 0 := by
    by_cases z : K q = 0
    · exact z
    · exact absurd (hW.1 q z) hn
  have hne : ∀ a, K a ≠ 0 → a ≠ q := fun a ha e => ha (by rw [e]; exact hK)
  have ec : va_pl Ls (cellOf cy K ln h) ++ [(q, e)] = va_pl (Ls ++ [q]) (cellOf cy (upNx K q k) (upNx ln q N) (rowF h q r)) := by
    rw [va_pl_push hn]
    refine va_pl_congr (fun b => ?_)
    by_cases eb : b = q
    · subst eb
      rw [he]; simp [va_up]
    · have : cellOf cy (upNx K q k) (upNx ln q N) (rowF h q r) b = cellOf cy K ln h b := by
        unfold cellOf
        rw [upNx_n eb, upNx_n eb, rowF_n eb]
      rw [this]; simp [va_up, eb]
  rw [ec] at hP hD
  refine ⟨hK, fun a ha => ⟨upNx_n (hne a ha), upNx_n (hne a ha)⟩, ⟨hP, hD⟩, fun a ha => ?_, fun a ha => ?_⟩
  · by_cases ea : a = q
    · rw [ea]; exact List.mem_append_right _ (List.mem_singleton.mpr rfl)
    · rw [upNx_n ea] at ha
      exact List.mem_append_left _ (hW.1 a ha)
  · by_cases ea : a = q
    · rw [ea, upNx_s] at ha ⊢
      rw [upNx_s, hlk ha]
    · rw [upNx_n ea] at ha ⊢
      rw [upNx_n ea]
      exact hW.2 a ha
theorem Ok_pushF (ok : Ok K h) (hq : K q = 0) (hv : ∀ j, okc (upNx K q k) (cd k j) (r j)) : Ok (upNx K q k) (rowF h q r) := by
  intro a j ha
  by_cases ea : a = q
  · subst ea
    rw [upNx_s, rowF_s]
    exact hv j
  · rw [upNx_n ea] at ha ⊢
    rw [rowF_n ea]
    exact okc_mono (fun b hb => upNx_n (fun e => hb (by rw [e]; exact hq))) (ok a j ha)
end PUSHF
-- the empty pool to begin with: K = fun _ => 0, ln = fun _ => 0, Ls = [], h = fun _ _ => .null; va_pl [] f = []
-- an object of class ci with fields fs (fs.length = nf (ci + 1)): k = ci + 1, N = 0, r = fun j => fs.getD j .null: cellOf = .inr (ci, fs) by cell_o, upNx_s, rowF_s and 'rfl'
-- va_P, va_D of a list in another order: va_P.by, va_D.by of the kit take the places (g : Nat → Nat)
