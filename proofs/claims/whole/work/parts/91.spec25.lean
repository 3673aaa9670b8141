/-! the reference's smooth: places are searched in breadth, in codes 41 k + h -/
abbrev dV (P : PL) (mm x L v : Nat) : Int := fwZ P mm x L (v / 41) (v % 41)
abbrev chV (P : PL) (mm x v y : Nat) : Nat := 41 * y + lowS P mm x (v % 41) y
abbrev adV (P : PL) (v y : Nat) : Prop := v / 41 = y ∨ nxt P (v / 41) y
theorem chV_q {P : PL} {mm x v y : Nat} : chV P mm x v y / 41 = y ∧ chV P mm x v y % 41 = lowS P mm x (v % 41) y := by
  have h1 := lowS_le P mm x (v % 41) y
  have h2 := Nat.mod_lt v (show 0 < 41 by omega)
  unfold chV
  omega
theorem chV_inj {P : PL} {mm x v y z : Nat} (h : chV P mm x v y = chV P mm x v z) : y = z := by
  have h1 := (chV_q (P := P) (mm := mm) (x := x) (v := v) (y := y)).1
  have h2 := (chV_q (P := P) (mm := mm) (x := x) (v := v) (y := z)).1
  rw [h] at h1
  omega
theorem dV_rng (P : PL) (mm x L v : Nat) : dV P mm x L v = -4 ∨ (0 ≤ dV P mm x L v ∧ dV P mm x L v ≤ L) := fw_rng P mm x L (v / 41) (v % 41)
theorem dV_zero {P : PL} {mm x L v : Nat} : dV P mm x L v = 0 ↔ v % 41 = 0 := by
  constructor
  · intro h
    have h1 : fwZ P mm x L (v / 41) (v % 41) = ((0 : Nat) : Int) := h
    have h2 := (fw_val (P := P) (mm := mm) (x := x) (n0 := 0) (k := v / 41) (h := v % 41) (n := 0) (Nat.le_refl _) L).mpr (by rw [Nat.zero_add]; exact h1)
    rw [fwZ] at h2
    by_cases e : v % 41 = 0
    · exact e
    · rw [if_neg e] at h2; omega
  · intro h
    unfold dV
    rw [h]
    exact fw_zero P mm x L (v / 41)
def way5 (P : PL) (k y : Nat) : Prop := ∃ i, i < 5 ∧ wayZ P k i = (y : Int)
theorem nx_way {P : PL} {k y : Nat} (hk : k < pCells P) (h : k = y ∨ nxt P k y) : way5 P k y := by
  rcases h with rfl | h
  · exact ⟨2, by omega, rfl⟩
  · rcases h with h | h | h | h
    · exact ⟨0, by omega, h⟩
    · exact ⟨1, by omega, h⟩
    · exact ⟨3, by omega, h⟩
    · exact ⟨4, by omega, h⟩
theorem way_nx {P : PL} {k i : Nat} {y : Nat} (hi : i < 5) (h : wayZ P k i = (y : Int)) : k = y ∨ nxt P k y := by
  rcases (show i = 0 ∨ i = 1 ∨ i = 2 ∨ i = 3 ∨ i = 4 by omega) with rfl | rfl | rfl | rfl | rfl
  · exact Or.inr (Or.inl h)
  · exact Or.inr (Or.inr (Or.inl h))
  · exact Or.inl (by have : ((k : Nat) : Int) = (y : Int) := h; omega)
  · exact Or.inr (Or.inr (Or.inr (Or.inl h)))
  · exact Or.inr (Or.inr (Or.inr (Or.inr h)))
theorem way_up {P : PL} {k i j : Nat} (hk : k < pCells P) (hij : i < j) (hj : j < 5) (hi : wayZ P k i ≠ -1) (hj2 : wayZ P k j ≠ -1) : wayZ P k i < wayZ P k j := by
  have hw := pWi_pos hk
  have hm := Nat.mod_le k P.2.2.2.1
  rcases (show (i = 0 ∧ j = 1) ∨ (i = 0 ∧ j = 2) ∨ (i = 0 ∧ j = 3) ∨ (i = 0 ∧ j = 4) ∨ (i = 1 ∧ j = 2) ∨ (i = 1 ∧ j = 3) ∨ (i = 1 ∧ j = 4) ∨ (i = 2 ∧ j = 3) ∨ (i = 2 ∧ j = 4) ∨ (i = 3 ∧ j = 4) by omega) with ⟨rfl, rfl⟩ | ⟨rfl, rfl⟩ | ⟨rfl, rfl⟩ | ⟨rfl, rfl⟩ | ⟨rfl, rfl⟩ | ⟨rfl, rfl⟩ | ⟨rfl, rfl⟩ | ⟨rfl, rfl⟩ | ⟨rfl, rfl⟩ | ⟨rfl, rfl⟩
  all_goals
    have hml := Nat.mod_lt k (show 0 < P.2.2.2.1 by omega)
    unfold wayZ at hi hj2 ⊢
    simp only [] at hi hj2 ⊢
    (repeat' split at hi) <;> (repeat' split at hj2) <;> (repeat' split) <;> omega
