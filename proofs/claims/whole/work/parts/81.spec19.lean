/-! texts that agree below their length are read alike -/
def tEq (T U : LT) : Prop := T.2 = U.2 ∧ ∀ k, k < T.2 → T.1 k = U.1 k
section TEQ
variable {T U : LT}
theorem tEq_at (h : tEq T U) : tAt T = tAt U := by
  funext k
  unfold tAt
  rw [h.1]
  by_cases q : k < U.2
  · rw [if_pos q, if_pos q]; exact h.2 k (by rw [h.1]; exact q)
  · rw [if_neg q, if_neg q]
theorem tEq_numS (h : tAt T = tAt U) : numS T = numS U := by
  funext k s
  simp only [numS, num1, isF, h]
theorem tEq_numsF (h : tAt T = tAt U) (k : Nat) (f : Nat → Nat) : ∀ i, numsF T k f i = numsF U k f i
  | 0 => rfl
  | i + 1 => by rw [numsF, numsF, tEq_numsF h k f i, tEq_numS h]
theorem tEq_runN (h : tAt T = tAt U) (k : Nat) : ∀ n, runN T k n = runN U k n
  | 0 => rfl
  | n + 1 => by
    rw [runN, runN, tEq_runN h k n]
    simp only [isF, h]
theorem tEq_item (h : tAt T = tAt U) (P : PL) (k : Nat) : itemS T P k = itemS U P k := by
  have h1 : ∀ j, nums4 T j = nums4 U j := fun j => by unfold nums4; rw [tEq_numsF h]
  have h2 : ∀ j, rowS T P j = rowS U P j := fun j => by unfold rowS; rw [tEq_runN h, h]
  unfold itemS
  rw [h, h1, h2]
theorem tEq_read (h : tEq T U) : ∀ n k P, readS T n k P = readS U n k P
  | 0, _, _ => rfl
  | n + 1, k, P => by
    rw [readS, readS, h.1, tEq_item (tEq_at h)]
    split
    · split
      · rfl
      · exact tEq_read h n _ _
    · rfl
theorem tEq_fault (h : tEq T U) (P : PL) : faultZ (readS T 200 0 (pZ P)) = faultZ (readS U 200 0 (pZ P)) := by rw [tEq_read h]
end TEQ
/-! what is read is a plan -/
def rdOK (P : PL) : Prop := oOK P ∧ (∀ k, k < P.2.2.2.2.2.1 → P.2.1 (k * 4 + 1) < pCells P) ∧ (∀ k, k < P.2.2.2.2.2.2 → P.2.2.1 (k * 4 + 3) < pCells P ∧ P.2.2.1 (k * 4 + 2) ≤ 9) ∧ ∀ k, pCells P ≤ k → P.1 k = 0
section RDOK
variable {T : LT} {P P1 : PL} {k k1 : Nat}
theorem rd_cas {g : Nat → Nat} (h : rdOK P) (hc : casOK P g) (ho : oOK (pCas P g)) : rdOK (pCas P g) := by
  refine ⟨ho, fun j hj => ?_, h.2.2.1, h.2.2.2⟩
  have hj : j < P.2.2.2.2.2.1 + 1 := hj
  show va_cpy g P.2.1 0 (P.2.2.2.2.2.1 * 4) 4 (j * 4 + 1) < pCells P
  rw [cpy4 (by omega)]
  split
  · exact hc.2.2.1
  · exact h.2.1 j (by omega)
theorem rd_mai {g : Nat → Nat} (h : rdOK P) (hc : maiOK P g) (ho : oOK (pMai P g)) : rdOK (pMai P g) := by
  refine ⟨ho, h.2.1, fun j hj => ?_, h.2.2.2⟩
  have hj : j < P.2.2.2.2.2.2 + 1 := hj
  show va_cpy g P.2.2.1 0 (P.2.2.2.2.2.2 * 4) 4 (j * 4 + 3) < pCells P ∧ va_cpy g P.2.2.1 0 (P.2.2.2.2.2.2 * 4) 4 (j * 4 + 2) ≤ 9
  rw [cpy4 (by omega), cpy4 (by omega)]
  by_cases q : j = P.2.2.2.2.2.2
  · rw [if_pos q, if_pos q]
    exact ⟨hc.2.2.1, hc.2.2.2.2.2.2⟩
  · rw [if_neg q, if_neg q]
    exact h.2.2.1 j (by omega)
theorem rd_row {g : Nat → Nat} {w : Nat} (h : rdOK P) (hc : rowOK P w) (ho : oOK (pRow P g w)) : rdOK (pRow P g w) := by
  have e := row_cells (g := g) hc h.1
  refine ⟨ho, fun j hj => ?_, fun j hj => ?_, fun j hj => ?_⟩
  · rw [e]
    have := h.2.1 j hj
    show P.2.1 (j * 4 + 1) < _
    omega
  · rw [e]
    have := h.2.2.1 j hj
    show P.2.2.1 (j * 4 + 3) < _ ∧ P.2.2.1 (j * 4 + 2) ≤ 9
    omega
  · rw [e] at hj
    show rowFill P.1 (pCells P) g w j = 0
    rw [rowFill_at, if_neg (by omega)]
    exact h.2.2.2 j (by omega)
theorem tAt_fig (hf : ltOK T) {j : Nat} (h : isF T j) : tAt T j - 48 ≤ 9 := by
  have := h.2
  omega
theorem rd_item (ht : ltOK T) (h : rdOK P) (hi : itemS T P k = some (P1, k1)) : rdOK P1 := by
  obtain ⟨⟨hp, hz1, hz2⟩, -⟩ := id h
  by_cases q1 : tAt T k = 114
  · rw [item_r q1] at hi
    unfold rowS at hi
    by_cases q : tAt T (k + 1 + runN T (k + 1) 6) = 59 ∧ rowOK P (runN T (k + 1) 6)
    · rw [if_pos q] at hi
      cases hi
      have hi2 : itmR T P (tAt T k : Nat) (k + 1) = some (pRow P (fun j => tAt T (k + 1 + j) - 48) (runN T (k + 1) 6), k + 1 + runN T (k + 1) 6) := itm_r (by omega) q.2 rfl (by omega)
      exact rd_row h q.2 (itm_yes h.1 hi2 q.1).2
    · rw [if_neg q] at hi; cases hi
  · by_cases q2 : tAt T k = 99
    · rcases hn : nums4 T (k + 1) with _ | ⟨g, k4⟩
      · rw [item_c0 q2 hn] at hi; cases hi
      · have hg : g = vec4 (g 0) (g 1) (g 2) (g 3) := by
          obtain ⟨_, _, _, _, _, _, _, hg⟩ := nums4_inv hn
          exact hg
        by_cases ok : casOK P g
        · rw [item_c1 q2 (by rw [← hg]; exact hn) ok] at hi
          cases hi
          obtain ⟨k5, hc, e⟩ := cas_fwd hn ok
          have hi2 : itmR T P (tAt T k : Nat) (k + 1) = some (pCas P (vec4 (g 0) (g 1) (g 2) (g 3)), k5) := itm_c (by omega) hc
          rw [pCas_vec] at hi2
          exact rd_cas h ok (itm_yes h.1 hi2 e).2
        · rw [item_c2 q2 (by rw [← hg]; exact hn) ok] at hi; cases hi
    · by_cases q3 : tAt T k = 109
      · rcases hn : nums4 T (k + 1) with _ | ⟨g, k4⟩
        · rw [item_m0 q3 hn] at hi; cases hi
        · have hg : g = vec4 (g 0) (g 1) (g 2) (g 3) := by
            obtain ⟨_, _, _, _, _, _, _, hg⟩ := nums4_inv hn
            exact hg
          by_cases ok : maiOK P g
          · rw [item_m1 q3 (by rw [← hg]; exact hn) ok] at hi
            cases hi
            obtain ⟨k5, hc, e⟩ := mai_fwd hn ok
            have hi2 : itmR T P (tAt T k : Nat) (k + 1) = some (pMai P (vec4 (g 0) (g 1) (g 2) (g 3)), k5) := itm_m (by omega) hc
            rw [pMai_vec] at hi2
            exact rd_mai h ok (itm_yes h.1 hi2 e).2
          · rw [item_m2 q3 (by rw [← hg]; exact hn) ok] at hi; cases hi
      · rw [item_n q1 q2 q3] at hi; cases hi
theorem rd_read (ht : ltOK T) : ∀ n k P, rdOK P → rdOK (readS T n k P).2
  | 0, _, _, h => h
  | n + 1, k, P, h => by
    rw [readS]
    by_cases q : k < T.2
    · rw [if_pos q]
      rcases hi : itemS T P k with _ | ⟨P1, k1⟩
      · exact h
      · exact rd_read ht n k1 P1 (rd_item ht h hi)
    · rw [if_neg q]
      exact h
theorem rd_Z (hp : pOK P) : rdOK (pZ P) := ⟨oOK_Z hp, fun k h => absurd h (Nat.not_lt_zero k), fun k h => absurd h (Nat.not_lt_zero k), fun _ _ => rfl⟩
theorem rd_pl (h : rdOK P) (hc : pCells P ≠ 0) : plOK P := ⟨⟨h.1.1, by omega, h.2.1, fun k hk => (h.2.2.1 k hk).1⟩, fun k hk => (h.2.2.1 k hk).2⟩
theorem lay_ok (hp : plOK P) : stOK P (layS P) := by
  have h := sub_ok (st := 0) hp (by omega)
  exact ⟨h.1, h.2.1, h.2.2.1, by show 0 < 64; omega, h.2.2.2.2⟩
theorem lay_x (h : rdOK P) (hc : pCells P ≠ 0) : stX P (layS P) := by
  have hcl := pCells_le h.1.1
  refine ⟨fun k hk => ?_, fun k hk => ?_, Nat.two_pow_pos _⟩
  · show layHi P 24 k = 0
    by_cases q : k < 24
    · rw [layHi_at P 24 k q]
      exact h.2.2.2 k hk
    · exact layHi_out P 24 k (by omega)
  · show giveLe P (fun _ => 0) P.2.2.2.2.2.2 k = 0
    rw [giveLe_at, if_neg (by omega)]
end RDOK
