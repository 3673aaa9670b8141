theorem noteS_ne (R : RO) (b : Nat) : (noteS R b).2.2 ≠ -4 := by
  unfold noteS
  split
  · show (b : Int) ≠ -4; omega
  · omega
theorem tryW_ne {P : PL} {mm g fr : Nat} {S : ST} {rec : RO → ST → RO} (hrec : ∀ R T, (rec R T).2.2 ≠ -4) (R : RO) : ∀ i, 3 ≤ i → (tryW P mm g fr S rec R i).2.2 ≠ -4
  | 0, h => by omega
  | i + 1, h => by
    unfold tryW
    split
    · by_cases h2 : i = 2
      · subst h2
        have e : wayZ P fr 2 = (fr : Int) := rfl
        omega
      · exact tryW_ne hrec R i (by omega)
    · exact hrec _ _
theorem tryS_ne {P : PL} {mm : Nat} : ∀ (d g : Nat) (R : RO) (S : ST), (tryS P mm d g R S).2.2 ≠ -4
  | 0, g, R, S => noteS_ne R _
  | d + 1, g, R, S => tryW_ne (fun R T => tryS_ne d (g + 1) R T) R 5 (by omega)
theorem tryS_all {P : PL} {mm n : Nat} (R R' : RO) (S : ST) : (tryS P mm n 0 (R.1, R.2.1, -4) S).2.2 = (tryS P mm n 0 (R'.1, R'.2.1, -4) S).2.2 ∧ ∀ j, j < n → (tryS P mm n 0 (R.1, R.2.1, -4) S).2.1 j = (tryS P mm n 0 (R'.1, R'.2.1, -4) S).2.1 j := by
  have h := tryS_sim (P := P) (mm := mm) (n := n) n 0 (R.1, R.2.1, -4) (R'.1, R'.2.1, -4) S (by omega) ⟨fun j hj => absurd hj (Nat.not_lt_zero j), rfl, fun h => absurd rfl h⟩
  exact ⟨h.2.1, h.2.2 (tryS_ne n 0 _ S)⟩
