def dpP (P : PL) (i v : Nat) : PL := (P.1, va_up P.2.1 (i * 4 + 2) v, P.2.2)
theorem dp_up {f : Nat → Nat} {i a b : Nat} : va_up (va_up f i a) i b = va_up f i b := by
  funext j
  unfold va_up
  split <;> rfl
theorem dp_dp {P : PL} {i a b : Nat} : dpP (dpP P i a) i b = dpP P i b := by
  show (P.1, va_up (va_up P.2.1 (i * 4 + 2) a) (i * 4 + 2) b, P.2.2) = _
  rw [dp_up]
  rfl
theorem dp_wf {P : PL} (h : pWF P) {i v : Nat} (hv : v < 100) : pWF (dpP P i v) := by
  obtain ⟨⟨a1, a2, a3⟩, b1, b2, b3⟩ := h
  refine ⟨⟨a1, fun k => ?_, a3⟩, b1, fun k hk => ?_, b3⟩
  · show va_up P.2.1 (i * 4 + 2) v k < 100
    unfold va_up
    split
    · exact hv
    · exact a2 k
  · show va_up P.2.1 (i * 4 + 2) v (k * 4 + 1) < pCells P
    unfold va_up
    rw [if_neg (by omega)]
    exact b2 k hk
def deepN (P : PL) (G : SG) (i n : Nat) : Nat → Nat × Int
  | 0 => (0, -4)
  | k + 1 => if seenB (dpP P i (k + 1)) G (2 ^ P.2.2.2.2.2.1 - 1) n then ((deepN P G i n k).1 + 1, if (deepN P G i n k).2 = -4 then ((k + 1 : Nat) : Int) else (deepN P G i n k).2) else deepN P G i n k
theorem deepN_rng {P : PL} {G : SG} {i n : Nat} : ∀ k, (deepN P G i n k).1 ≤ k ∧ -4 ≤ (deepN P G i n k).2 ∧ (deepN P G i n k).2 ≤ k
  | 0 => ⟨Nat.le_refl 0, Int.le_refl _, by show (-4 : Int) ≤ ((0 : Nat) : Int); omega⟩
  | k + 1 => by
    have h1 := deepN_rng (P := P) (G := G) (i := i) (n := n) k
    rw [deepN]
    split
    · refine ⟨by show _ + 1 ≤ k + 1; omega, ?_, ?_⟩
      · show -4 ≤ (if (deepN P G i n k).2 = -4 then ((k + 1 : Nat) : Int) else (deepN P G i n k).2)
        split <;> omega
      · show (if (deepN P G i n k).2 = -4 then ((k + 1 : Nat) : Int) else (deepN P G i n k).2) ≤ ((k + 1 : Nat) : Int)
        split <;> omega
    · omega
theorem deep_no {P : PL} {G : SG} {i n k a : Nat} {b : Int} (hb : (a, b) = deepN P G i n k) (h : ¬ seenB (dpP P i (k + 1)) G (2 ^ P.2.2.2.2.2.1 - 1) n) : (a, b) = deepN P G i n (k + 1) := by rw [deepN, if_neg h, hb]
theorem deep_new {P : PL} {G : SG} {i n k a : Nat} {b : Int} (hb : (a, b) = deepN P G i n k) (h : seenB (dpP P i (k + 1)) G (2 ^ P.2.2.2.2.2.1 - 1) n) (h2 : b = -4) : (a + 1, ((k + 1 : Nat) : Int)) = deepN P G i n (k + 1) := by
  rw [deepN, if_pos h, ← hb]
  show _ = (a + 1, if b = -4 then ((k + 1 : Nat) : Int) else b)
  rw [if_pos h2]
theorem deep_old {P : PL} {G : SG} {i n k a : Nat} {b : Int} (hb : (a, b) = deepN P G i n k) (h : seenB (dpP P i (k + 1)) G (2 ^ P.2.2.2.2.2.1 - 1) n) (h2 : b ≠ -4) : (a + 1, b) = deepN P G i n (k + 1) := by
  rw [deepN, if_pos h, ← hb]
  show _ = (a + 1, if b = -4 then ((k + 1 : Nat) : Int) else b)
  rw [if_neg h2]
def zDeep (P : PL) (G : SG) (i n v : Int) : Int := if okX P.2.2.2.2.2.1 i ∧ (1 ≤ n ∧ n ≤ 20) ∧ 0 ≤ v ∧ v ≤ 1 then (if v = 0 then ((deepN P G i.toNat n.toNat 9).1 : Int) else (deepN P G i.toNat n.toNat 9).2) else -1
