/-! the reference's round: codes, and what they spell -/
def hrQ (P : PL) (pl n code : Nat) : Nat → Int
  | 0 => (pl : Int)
  | q + 1 => optF P (hrQ P pl n code q).toNat (pCells P) 0 (code % 5 ^ (n - q) / 5 ^ (n - (q + 1)))
abbrev rowQ (P : PL) (pl n code : Nat) : Nat → Int := fun j => hrQ P pl n code (j + 1)
abbrev okQ (P : PL) (pl n code : Nat) : Prop := ∀ j, j < n → 0 ≤ rowQ P pl n code j
def sumQ (P : PL) (S : ST) (mm n code : Nat) : Nat := nSum (stS P S mm (rowQ P (S.2.2.1 mm) n code) n).1 24
def bstQ (P : PL) (S : ST) (mm n : Nat) : Nat → Int × (Nat → Int)
  | 0 => (-4, fun _ => 0)
  | c + 1 => if okQ P (S.2.2.1 mm) n c ∧ ((bstQ P S mm n c).1 < 0 ∨ (sumQ P S mm n c : Int) < (bstQ P S mm n c).1) then ((sumQ P S mm n c : Int), rowQ P (S.2.2.1 mm) n c) else bstQ P S mm n c
section RND
variable {P : PL} {S : ST} {mm n code q pl : Nat}
theorem dig_lt (hq : q < n) : code % 5 ^ (n - q) / 5 ^ (n - (q + 1)) < 5 := by
  apply Nat.div_lt_of_lt_mul
  have : 5 ^ (n - q) = 5 ^ (n - (q + 1)) * 5 := by rw [← Nat.pow_succ, show (n - (q + 1)).succ = n - q by omega]
  rw [← this]
  exact Nat.mod_lt _ (Nat.pow_pos (by omega))
theorem dig_div (hq : q < n) : 5 ^ (n - q) / 5 = 5 ^ (n - (q + 1)) := by
  have : 5 ^ (n - q) = 5 ^ (n - (q + 1)) * 5 := by rw [← Nat.pow_succ, show (n - (q + 1)).succ = n - q by omega]
  rw [this, Nat.mul_div_cancel _ (by omega)]
theorem dig_mod (hq : q < n) : code % 5 ^ (n - q) % 5 ^ (n - (q + 1)) = code % 5 ^ (n - (q + 1)) := by
  apply Nat.mod_mod_of_dvd
  exact Nat.pow_dvd_pow 5 (by omega)
theorem hrQ_rng (hpl : pl < pCells P) : ∀ q, hrQ P pl n code q = -4 ∨ (0 ≤ hrQ P pl n code q ∧ hrQ P pl n code q < pCells P)
  | 0 => Or.inr ⟨Int.natCast_nonneg _, by show (pl : Int) < _; omega⟩
  | q + 1 => by
    show optF P _ (pCells P) 0 _ = -4 ∨ (0 ≤ optF P _ (pCells P) 0 _ ∧ optF P _ (pCells P) 0 _ < _)
    rcases opt_rng (P := P) (hr := (hrQ P pl n code q).toNat) (pCells P) 0 (code % 5 ^ (n - q) / 5 ^ (n - (q + 1))) with h | ⟨h1, h2, -⟩
    · exact Or.inl h
    · exact Or.inr ⟨by omega, by omega⟩
theorem stS_congr {a b : Nat → Int} : ∀ k, (∀ j, j < k → a j = b j) → stS P S mm a k = stS P S mm b k
  | 0, _ => rfl
  | k + 1, h => by rw [stS, stS, stS_congr k (fun j hj => h j (by omega)), h k (by omega)]
theorem stS_le (a : Nat → Int) : ∀ k, (stS P S mm a k).2.1 mm = S.2.1 mm - k
  | 0 => rfl
  | k + 1 => by rw [stS, strS_le, upEq, stS_le a k]; omega
theorem stS_pl (k : Nat) : (stS P S mm (rowQ P (S.2.2.1 mm) n code) k).2.2.1 mm = (hrQ P (S.2.2.1 mm) n code k).toNat := by
  cases k with
  | zero => rfl
  | succ k =>
    rw [stS, strS_pl]
    exact upEq
theorem stQ (hok : okQ P (S.2.2.1 mm) n code) (hpl : S.2.2.1 mm < pCells P) (hn : n ≤ S.2.1 mm) (k : Nat) (hk : k < n) : (0 ≤ rowQ P (S.2.2.1 mm) n code k ∧ rowQ P (S.2.2.1 mm) n code k < pCells P) ∧ canS P (stS P S mm (rowQ P (S.2.2.1 mm) n code) k) mm (rowQ P (S.2.2.1 mm) n code k).toNat := by
  have h0 := hok k hk
  have hr := hrQ_rng (n := n) (code := code) hpl (k + 1)
  have h0' : 0 ≤ hrQ P (S.2.2.1 mm) n code (k + 1) := h0
  refine ⟨⟨h0, by show hrQ P (S.2.2.1 mm) n code (k + 1) < _; omega⟩, ?_, ?_⟩
  · rw [stS_le]
    omega
  · rw [stS_pl]
    have ho := opt_rng (P := P) (hr := (hrQ P (S.2.2.1 mm) n code k).toNat) (pCells P) 0 (code % 5 ^ (n - k) / 5 ^ (n - (k + 1)))
    have e : hrQ P (S.2.2.1 mm) n code (k + 1) = optF P (hrQ P (S.2.2.1 mm) n code k).toNat (pCells P) 0 (code % 5 ^ (n - k) / 5 ^ (n - (k + 1))) := rfl
    rw [← e] at ho
    rcases ho with h | ⟨-, -, h⟩
    · omega
    · show reach P _ (hrQ P (S.2.2.1 mm) n code (k + 1)).toNat
      have e2 : wayZ P (hrQ P (S.2.2.1 mm) n code k).toNat 2 = (((hrQ P (S.2.2.1 mm) n code k).toNat : Nat) : Int) := rfl
      unfold reach
      rw [e2]
      rcases h with h | h
      · exact Or.inr (Or.inr (Or.inl (by omega)))
      · rcases h with h | h | h | h
        · exact Or.inl h
        · exact Or.inr (Or.inl h)
        · exact Or.inr (Or.inr (Or.inr (Or.inl h)))
        · exact Or.inr (Or.inr (Or.inr (Or.inr h)))
theorem stS_sum (hst : stOK P S) {a : Nat → Int} (hv : ∀ k, k < n → 0 ≤ a k ∧ a k < pCells P) : nSum (stS P S mm a n).1 24 ≤ 960 := nSum_le (stS_ok hst hv n (Nat.le_refl _)).1 24
theorem bstQ_rng (hst : stOK P S) (hpl : S.2.2.1 mm < pCells P) : ∀ c, -4 ≤ (bstQ P S mm n c).1 ∧ (bstQ P S mm n c).1 ≤ 960
  | 0 => ⟨Int.le_refl _, by show (-4 : Int) ≤ 960; omega⟩
  | c + 1 => by
    rw [bstQ]
    split
    · next h =>
      have := stS_sum (mm := mm) (n := n) hst (a := rowQ P (S.2.2.1 mm) n c) (fun k hk => ⟨h.1 k hk, by
        have h0 : 0 ≤ hrQ P (S.2.2.1 mm) n c (k + 1) := h.1 k hk
        have hr := hrQ_rng (n := n) (code := c) hpl (k + 1)
        show hrQ P (S.2.2.1 mm) n c (k + 1) < _
        omega⟩)
      refine ⟨by show -4 ≤ (sumQ P S mm n c : Int); omega, ?_⟩
      show (sumQ P S mm n c : Int) ≤ 960
      unfold sumQ
      omega
    · exact bstQ_rng hst hpl c
end RND
theorem rowst {a b : Nat → Int} {q : Nat} (h : ∀ j, j < q → a j = b j) (j : Nat) (hj : j < q + 1) : va_up a q (b q) j = b j := by
  by_cases e : j = q
  · subst e; exact va_up_self a j (b j)
  · rw [va_up_ne a _ e]; exact h j (by omega)
theorem opt_self {P : PL} {hr : Nat} : ∀ f y, y ≤ hr → hr < y + f → 0 ≤ optF P hr f y 0
  | 0, y, h1, h2 => by omega
  | f + 1, y, h1, h2 => by
    rw [optF]
    by_cases q : y = hr ∨ nxt P hr y
    · rw [if_pos q, if_pos rfl]
      exact Int.natCast_nonneg _
    · rw [if_neg q]
      exact opt_self f (y + 1) (by omega) (by omega)
theorem hrQ_0 {P : PL} {n pl : Nat} (hpl : pl < pCells P) : ∀ q, 0 ≤ hrQ P pl n 0 q
  | 0 => Int.natCast_nonneg _
  | q + 1 => by
    have h0 := hrQ_0 (n := n) hpl q
    have hr := hrQ_rng (n := n) (code := 0) hpl q
    show 0 ≤ optF P _ (pCells P) 0 (0 % 5 ^ (n - q) / 5 ^ (n - (q + 1)))
    rw [Nat.zero_mod, Nat.zero_div]
    exact opt_self _ _ (by omega) (by omega)
theorem bst_pos {P : PL} {S : ST} {mm n : Nat} (hpl : S.2.2.1 mm < pCells P) : ∀ c, 0 ≤ (bstQ P S mm n (c + 1)).1
  | 0 => by
    rw [bstQ, if_pos ⟨fun j _ => hrQ_0 hpl (j + 1), Or.inl (by show (-4 : Int) < 0; omega)⟩]
    exact Int.natCast_nonneg _
  | c + 1 => by
    rw [bstQ]
    split
    · exact Int.natCast_nonneg _
    · exact bst_pos hpl c
