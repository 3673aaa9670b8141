/-! the reference: rounds -/
def optF (P : PL) (hr : Nat) : Nat → Nat → Nat → Int
  | 0, _, _ => -4
  | f + 1, y, r => if y = hr ∨ nxt P hr y then (if r = 0 then (y : Int) else optF P hr f (y + 1) (r - 1)) else optF P hr f (y + 1) r
section OPT
variable {P : PL} {S : ST} {hr y r n : Nat} {z : Int}
theorem opt_0 (h : z = optF P hr (pCells P - y) y r) (hy : y < pCells P) (hh : y = hr ∨ nxt P hr y) (h0 : r = 0) : z = (y : Int) := by
  rw [h, show pCells P - y = (pCells P - (y + 1)) + 1 by omega, optF, if_pos hh, if_pos h0]
theorem opt_1 (h : z = optF P hr (pCells P - y) y r) (hy : y < pCells P) (hh : y = hr ∨ nxt P hr y) (h0 : r ≠ 0) : z = optF P hr (pCells P - (y + 1)) (y + 1) (r - 1) := by
  rw [h, show pCells P - y = (pCells P - (y + 1)) + 1 by omega, optF, if_pos hh, if_neg h0]
theorem opt_2 (h : z = optF P hr (pCells P - y) y r) (hy : y < pCells P) (hh : ¬ (y = hr ∨ nxt P hr y)) : z = optF P hr (pCells P - (y + 1)) (y + 1) r := by
  rw [h, show pCells P - y = (pCells P - (y + 1)) + 1 by omega, optF, if_neg hh]
theorem opt_rng : ∀ (f y r : Nat), optF P hr f y r = -4 ∨ ((y : Int) ≤ optF P hr f y r ∧ optF P hr f y r < (y + f : Nat) ∧ (optF P hr f y r = hr ∨ nxt P hr (optF P hr f y r).toNat))
  | 0, _, _ => Or.inl rfl
  | f + 1, y, r => by
    rw [optF]
    by_cases q : y = hr ∨ nxt P hr y
    · rw [if_pos q]
      by_cases q2 : r = 0
      · rw [if_pos q2, Int.toNat_natCast]
        refine Or.inr ⟨Int.le_refl _, by omega, ?_⟩
        rcases q with q | q
        · exact Or.inl (by omega)
        · exact Or.inr q
      · rw [if_neg q2]
        rcases opt_rng f (y + 1) (r - 1) with h | ⟨h1, h2, h3⟩
        · exact Or.inl h
        · exact Or.inr ⟨by omega, by omega, h3⟩
    · rw [if_neg q]
      rcases opt_rng f (y + 1) r with h | ⟨h1, h2, h3⟩
      · exact Or.inl h
      · exact Or.inr ⟨by omega, by omega, h3⟩
end OPT
/-- how it stands behind the first k strokes of a row -/
def stS (P : PL) (S : ST) (mm : Nat) (rw : Nat → Int) : Nat → ST | 0 => S | k + 1 => strS P (stS P S mm rw k) mm (rw k).toNat
theorem stS_ok {P : PL} {S : ST} {mm n : Nat} {rw : Nat → Int} (h : stOK P S) (hv : ∀ k, k < n → 0 ≤ rw k ∧ rw k < pCells P) : ∀ k, k ≤ n → stOK P (stS P S mm rw k)
  | 0, _ => h
  | k + 1, hk => strS_ok (stS_ok h hv k (by omega)) mm (by have := hv k (by omega); omega)
theorem stS_x {P : PL} {S : ST} {mm n : Nat} {rw : Nat → Int} (h : stX P S) (hv : ∀ k, k < n → 0 ≤ rw k ∧ rw k < pCells P) : ∀ k, k ≤ n → stX P (stS P S mm rw k)
  | 0, _ => h
  | k + 1, hk => strS_x (by have := hv k (by omega); omega) (stS_x h hv k (by omega))
theorem opt_rng2 (P : PL) (hr f y r : Nat) : optF P hr f y r = -4 ∨ ((y : Int) ≤ optF P hr f y r ∧ optF P hr f y r < (y + f : Nat) ∧ (optF P hr f y r = hr ∨ nxt P hr (optF P hr f y r).toNat)) := opt_rng f y r
