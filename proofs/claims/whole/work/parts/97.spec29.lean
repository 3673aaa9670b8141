/-! the first text -/
def txF (i : Nat) : Nat → Nat := fun j => if j < i then tx0 j else 0
theorem txF_0 : zN = txF 0 := by
  funext j
  show 0 = if j < 0 then tx0 j else 0
  rw [if_neg (Nat.not_lt_zero j)]
theorem txF_up {i : Nat} : va_up (txF i) i (tx0 i) = txF (i + 1) := by
  funext j
  by_cases e : j = i
  · subst e
    rw [va_up_self]
    show _ = if j < j + 1 then tx0 j else 0
    rw [if_pos (Nat.lt_succ_self j)]
  · rw [va_up_ne _ _ e]
    show (if j < i then tx0 j else 0) = if j < i + 1 then tx0 j else 0
    by_cases q : j < i
    · rw [if_pos q, if_pos (by omega)]
    · rw [if_neg q, if_neg (by omega)]
theorem tx0_lt2 (j : Nat) : tx0 j < 127 := by
  by_cases q : j < 99
  · exact tx0_lt j q
  · have e : tx0 j = 0 := by
      unfold tx0
      rw [List.getD_eq_getElem?_getD, List.getElem?_eq_none (show txL.length ≤ j by show 99 ≤ j; omega)]
      rfl
    rw [e]; omega
theorem txF_lt (i j : Nat) : txF i j < 127 := by
  unfold txF
  split
  · exact tx0_lt2 j
  · omega
theorem pz0_ok : pOK pz0 := ⟨fun _ => Nat.zero_le _, fun k => zN_b k, fun k => zN_b k, Nat.zero_le _, Nat.zero_le _, Nat.zero_le _, Nat.zero_le _⟩
abbrev pln1 : PL := (readS (txF 99, 99) 200 0 (pZ (zN, zN, zN, 0, 0, 0, 0))).2
