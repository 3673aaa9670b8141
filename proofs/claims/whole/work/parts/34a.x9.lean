def rSim (n g : Nat) (R R' : RO) : Prop := (∀ j, j < g → R.1 j = R'.1 j) ∧ R.2.2 = R'.2.2 ∧ (R.2.2 ≠ -4 → ∀ j, j < n → R.2.1 j = R'.2.1 j)
theorem noteS_sim {n b : Nat} {R R' : RO} (h : rSim n n R R') : rSim n n (noteS R b) (noteS R' b) := by
  obtain ⟨h1, h2, h3⟩ := h
  unfold noteS
  rw [← h2]
  split
  · exact ⟨h1, rfl, fun _ => h1⟩
  · exact ⟨h1, h2, h3⟩
theorem rSim_up {n g x : Nat} {R R' : RO} (h : rSim n g R R') : rSim n (g + 1) (va_up R.1 g x, R.2) (va_up R'.1 g x, R'.2) := by
  refine ⟨fun j hj => ?_, h.2.1, h.2.2⟩
  show va_up R.1 g x j = va_up R'.1 g x j
  unfold va_up
  split
  · rfl
  · exact h.1 j (by omega)
theorem tryW_sim {P : PL} {mm n g fr : Nat} {S : ST} {rec : RO → ST → RO} (hrec : ∀ R R' T, rSim n (g + 1) R R' → rSim n (g + 1) (rec R T) (rec R' T)) {R R' : RO} (h : rSim n g R R') : ∀ i, rSim n g (tryW P mm g fr S rec R i) (tryW P mm g fr S rec R' i)
  | 0 => h
  | i + 1 => by
    have ih := tryW_sim (P := P) (mm := mm) (fr := fr) (S := S) hrec h i
    unfold tryW
    split
    · exact ih
    · have q := hrec _ _ (strS P S mm (wayZ P fr i).toNat) (rSim_up (x := (wayZ P fr i).toNat) ih)
      exact ⟨fun j hj => q.1 j (by omega), q.2.1, q.2.2⟩
theorem tryS_sim {P : PL} {mm n : Nat} : ∀ (d g : Nat) (R R' : RO) (S : ST), g + d = n → rSim n g R R' → rSim n g (tryS P mm d g R S) (tryS P mm d g R' S)
  | 0, g, R, R', S, hg, h => by obtain rfl : g = n := (by omega); exact noteS_sim h
  | d + 1, g, R, R', S, hg, h => tryW_sim (fun R R' T h => tryS_sim d (g + 1) R R' T (by omega) h) h 5
