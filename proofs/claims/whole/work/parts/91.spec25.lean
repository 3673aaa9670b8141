/-! the reference's smooth: places are searched in breadth, in codes 41 k + h -/
abbrev dV (P : PL) (mm x L v : Nat) : Int := fwZ P mm x L (v / 41) (v % 41)
abbrev chV (P : PL) (mm x v y : Nat) : Nat := 41 * y + lowS P mm x (v % 41) y
abbrev adV (P : PL) (v y : Nat) : Prop := v / 41 = y ∨ nxt P (v / 41) y
theorem chV_q {P : PL} {mm x v y : Nat} : chV P mm x v y / 41 = y ∧ chV P mm x v y % 41 = lowS P mm x (v % 41) y := by
  have h1 := lowS_le P mm x (v % 41) y
  have h2 := Nat.mod_lt v (show 0 < 41 by omega)
  unfold chV
  omega
theorem chV_inj {P : PL} {mm x v y z : Nat} (h : chV P mm x v y = chV P mm x v z) : y = z := by
  have h1 := (chV_q (P := P) (mm := mm) (x := x) (v := v) (y := y)).1
  have h2 := (chV_q (P := P) (mm := mm) (x := x) (v := v) (y := z)).1
  rw [h] at h1
  omega
theorem dV_rng (P : PL) (mm x L v : Nat) : dV P mm x L v = -4 ∨ (0 ≤ dV P mm x L v ∧ dV P mm x L v ≤ L) := fw_rng P mm x L (v / 41) (v % 41)
theorem dV_zero {P : PL} {mm x L v : Nat} : dV P mm x L v = 0 ↔ v % 41 = 0 := by
  constructor
  · intro h
    have h1 : fwZ P mm x L (v / 41) (v % 41) = ((0 : Nat) : Int) := h
    have h2 := (fw_val (P := P) (mm := mm) (x := x) (n0 := 0) (k := v / 41) (h := v % 41) (n := 0) (Nat.le_refl _) L).mpr (by rw [Nat.zero_add]; exact h1)
    rw [fwZ] at h2
    by_cases e : v % 41 = 0
    · exact e
    · rw [if_neg e] at h2; omega
  · intro h
    unfold dV
    rw [h]
    exact fw_zero P mm x L (v / 41)
def way5 (P : PL) (k y : Nat) : Prop := ∃ i, i < 5 ∧ wayZ P k i = (y : Int)
theorem nx_way {P : PL} {k y : Nat} (hk : k < pCells P) (h : k = y ∨ nxt P k y) : way5 P k y := by
  rcases h with rfl | h
  · exact ⟨2, by omega, rfl⟩
  · rcases h with h | h | h | h
    · exact ⟨0, by omega, h⟩
    · exact ⟨1, by omega, h⟩
    · exact ⟨3, by omega, h⟩
    · exact ⟨4, by omega, h⟩
theorem way_nx {P : PL} {k i : Nat} {y : Nat} (hi : i < 5) (h : wayZ P k i = (y : Int)) : k = y ∨ nxt P k y := by
  rcases (show i = 0 ∨ i = 1 ∨ i = 2 ∨ i = 3 ∨ i = 4 by omega) with rfl | rfl | rfl | rfl | rfl
  · exact Or.inr (Or.inl h)
  · exact Or.inr (Or.inr (Or.inl h))
  · exact Or.inl (by have : ((k : Nat) : Int) = (y : Int) := h; omega)
  · exact Or.inr (Or.inr (Or.inr (Or.inl h)))
  · exact Or.inr (Or.inr (Or.inr (Or.inr h)))
theorem way_0 {P : PL} {k : Nat} (h : wayZ P k 0 ≠ -1) : P.2.2.2.1 ≤ k ∧ wayZ P k 0 = ((k - P.2.2.2.1 : Nat) : Int) := by
  have e : wayZ P k 0 = if P.2.2.2.1 ≤ k then ((k - P.2.2.2.1 : Nat) : Int) else -1 := rfl
  by_cases c : P.2.2.2.1 ≤ k
  · exact ⟨c, by rw [e, if_pos c]⟩
  · rw [e, if_neg c] at h; exact absurd rfl h
theorem way_1 {P : PL} {k : Nat} (h : wayZ P k 1 ≠ -1) : 0 < k % P.2.2.2.1 ∧ wayZ P k 1 = ((k - 1 : Nat) : Int) := by
  have e : wayZ P k 1 = if 0 < k % P.2.2.2.1 then ((k - 1 : Nat) : Int) else -1 := rfl
  by_cases c : 0 < k % P.2.2.2.1
  · exact ⟨c, by rw [e, if_pos c]⟩
  · rw [e, if_neg c] at h; exact absurd rfl h
theorem way_3 {P : PL} {k : Nat} (h : wayZ P k 3 ≠ -1) : k % P.2.2.2.1 < P.2.2.2.1 - 1 ∧ wayZ P k 3 = ((k + 1 : Nat) : Int) := by
  have e : wayZ P k 3 = if k % P.2.2.2.1 < P.2.2.2.1 - 1 then ((k + 1 : Nat) : Int) else -1 := rfl
  by_cases c : k % P.2.2.2.1 < P.2.2.2.1 - 1
  · exact ⟨c, by rw [e, if_pos c]⟩
  · rw [e, if_neg c] at h; exact absurd rfl h
theorem way_4 {P : PL} {k : Nat} (h : wayZ P k 4 ≠ -1) : wayZ P k 4 = ((k + P.2.2.2.1 : Nat) : Int) := by
  have e : wayZ P k 4 = if k + P.2.2.2.1 < pCells P then ((k + P.2.2.2.1 : Nat) : Int) else -1 := rfl
  by_cases c : k + P.2.2.2.1 < pCells P
  · rw [e, if_pos c]
  · rw [e, if_neg c] at h; exact absurd rfl h
theorem way_2 (P : PL) (k : Nat) : wayZ P k 2 = (k : Int) := rfl
theorem way_up {P : PL} {k i j : Nat} (hk : k < pCells P) (hij : i < j) (hj : j < 5) (hi : wayZ P k i ≠ -1) (hj2 : wayZ P k j ≠ -1) : wayZ P k i < wayZ P k j := by
  have hw := pWi_pos hk
  have hml := Nat.mod_lt k (show 0 < P.2.2.2.1 by omega)
  have hm := Nat.mod_le k P.2.2.2.1
  have h2 := way_2 P k
  generalize hr : k % P.2.2.2.1 = r at *
  rcases (show (i = 0 ∧ j = 1) ∨ (i = 0 ∧ j = 2) ∨ (i = 0 ∧ j = 3) ∨ (i = 0 ∧ j = 4) ∨ (i = 1 ∧ j = 2) ∨ (i = 1 ∧ j = 3) ∨ (i = 1 ∧ j = 4) ∨ (i = 2 ∧ j = 3) ∨ (i = 2 ∧ j = 4) ∨ (i = 3 ∧ j = 4) by omega) with ⟨rfl, rfl⟩ | ⟨rfl, rfl⟩ | ⟨rfl, rfl⟩ | ⟨rfl, rfl⟩ | ⟨rfl, rfl⟩ | ⟨rfl, rfl⟩ | ⟨rfl, rfl⟩ | ⟨rfl, rfl⟩ | ⟨rfl, rfl⟩ | ⟨rfl, rfl⟩
  · have a := way_0 hi; have b := way_1 hj2; rw [hr] at b; omega
  · have a := way_0 hi; omega
  · have a := way_0 hi; have b := way_3 hj2; rw [hr] at b; omega
  · have a := way_0 hi; have b := way_4 hj2; omega
  · have a := way_1 hi; rw [hr] at a; omega
  · have a := way_1 hi; have b := way_3 hj2; rw [hr] at a b; omega
  · have a := way_1 hi; have b := way_4 hj2; rw [hr] at a; omega
  · have b := way_3 hj2; omega
  · have b := way_4 hj2; omega
  · have a := way_3 hi; have b := way_4 hj2; rw [hr] at a; omega
