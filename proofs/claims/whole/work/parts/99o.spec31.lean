/-! the first states of both sides agree -/
theorem pln1_n : pCells pln1 = 18 ∧ pln1.2.2.2.1 = 6 ∧ pln1.2.2.2.2.2.1 = 5 ∧ pln1.2.2.2.2.2.2 = 3 := by decide +kernel
theorem pln1_0 : ∀ k, k < 24 → pln0.1 k = pln1.1 k := by decide +kernel
theorem pln1_1 : ∀ k, k < 24 → pln0.2.1 k = pln1.2.1 k := by decide +kernel
theorem pln1_2 : ∀ k, k < 12 → pln0.2.2.1 k = pln1.2.2.1 k := by decide +kernel
theorem rN_pln1 {nt ns nc nd ni nw nr nk na : Nat → Nat} (h : rN pln0 18 6 5 3 nt ns nc nd ni nw nr nk na) : rN pln1 18 6 5 3 nt ns nc nd ni nw nr nk na := by
  obtain ⟨-, -, -, -, h1, h2, h3⟩ := h
  obtain ⟨n1, n2, n3, n4⟩ := pln1_n
  refine ⟨n1.symm, n2.symm, n3.symm, n4.symm, fun k hk => by rw [h1 k hk, pln1_0 k hk], fun k hk => ?_, fun k hk => ?_⟩
  · rw [n3] at hk
    have := h2 k (show k < 5 from hk)
    rw [pln1_1 _ (by omega), pln1_1 _ (by omega), pln1_1 _ (by omega), pln1_1 _ (by omega)] at this
    exact this
  · rw [n4] at hk
    have := h3 k (show k < 3 from hk)
    rw [pln1_2 _ (by omega), pln1_2 _ (by omega), pln1_2 _ (by omega), pln1_2 _ (by omega)] at this
    exact this
theorem zN_9 (j : Nat) : zN j < 90000 := by show 0 < 90000; omega
theorem zN_sB : sB zN := ⟨zN_9, fun j _ => by show 0 < 1100; omega⟩
theorem rd_pln1 : rdOK pln1 := rd_read ⟨txF_lt 99, by show 99 ≤ 200; omega⟩ 200 0 _ (rd_pZ pz0_ok)
theorem pln1_c : pCells pln1 ≠ 0 := by rw [pln1_n.1]; omega
