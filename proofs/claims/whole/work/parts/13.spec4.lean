/-! rounds: all rows of strokes, the cells by rising number -/
def noteS (R : RO) (b : Nat) : RO := if R.2.2 = -4 ∨ (b : Int) < R.2.2 then (R.1, R.1, (b : Int)) else R
def tryW (P : PL) (mm g fr : Nat) (S : ST) (rec : RO → ST → RO) (R : RO) : Nat → RO
  | 0 => R
  | i + 1 => if wayZ P fr i = -1 then tryW P mm g fr S rec R i else rec (va_up (tryW P mm g fr S rec R i).1 g (wayZ P fr i).toNat, (tryW P mm g fr S rec R i).2) (strS P S mm (wayZ P fr i).toNat)
def tryS (P : PL) (mm : Nat) : Nat → Nat → RO → ST → RO
  | 0, _, R, S => noteS R (nSum S.1 24)
  | d + 1, g, R, S => tryW P mm g (S.2.2.1 mm) S (fun R S => tryS P mm d (g + 1) R S) R 5
def rOK (R : RO) : Prop := -4 ≤ R.2.2 ∧ R.2.2 ≤ 1000
theorem noteS_ok {R : RO} {b : Nat} (h : rOK R) (hb : b ≤ 1000) : rOK (noteS R b) := by
  unfold noteS
  split
  · exact ⟨by show -4 ≤ (b : Int); omega, by show (b : Int) ≤ 1000; omega⟩
  · exact h
theorem tryW_ok {P : PL} {mm g fr : Nat} {S : ST} {rec : RO → ST → RO} {R : RO} (h : rOK R) (hr : ∀ R k, rOK R → rOK (rec R (strS P S mm k))) : ∀ i, rOK (tryW P mm g fr S rec R i)
  | 0 => h
  | i + 1 => by
    rw [tryW]
    split
    · exact tryW_ok h hr i
    · exact hr _ _ (tryW_ok h hr i)
theorem tryS_ok {P : PL} {mm : Nat} : ∀ d g R S, sHi S → rOK R → rOK (tryS P mm d g R S)
  | 0, g, R, S, hs, hr => noteS_ok hr (by have := nSum_le hs 24; omega)
  | d + 1, g, R, S, hs, hr => tryW_ok hr (fun R k h => tryS_ok d (g + 1) R _ (strS_hi hs mm k) h) 5
theorem strS_le (P : PL) (S : ST) (k x : Nat) : (strS P S k x).2.1 = va_up S.2.1 k (S.2.1 k - 1) := by
  show va_up (loS P S k x).2.1 k ((loS P S k x).2.1 k - 1) = _
  rw [sLower_2, sLower_2]
theorem strS_pl (P : PL) (S : ST) (k x : Nat) : (strS P S k x).2.2.1 = va_up S.2.2.1 k x := by
  show va_up (loS P S k x).2.2.1 k x = _
  rw [sLower_2, sLower_2]
theorem strS_rest (P : PL) (S : ST) (k x : Nat) : (strS P S k x).2.2.2 = S.2.2.2 := by
  show (loS P S k x).2.2.2 = _
  rw [sLower_2, sLower_2]
theorem sSet_other {S : ST} {z : Int} {v k : Nat} (h : (k : Int) ≠ z) : (sSet S z v).1 k = S.1 k := by
  unfold sSet
  split
  · show va_up S.1 z.toNat v k = S.1 k
    unfold va_up
    rw [if_neg (by omega)]
  · rfl
theorem sSet_at {S : ST} {z : Int} {v k : Nat} (h : (k : Int) = z) (hk : k < 24) : (sSet S z v).1 k = v := by
  unfold sSet
  rw [if_pos (by omega)]
  show va_up S.1 z.toNat v k = v
  unfold va_up
  rw [if_pos (by omega)]
theorem strS_other {P : PL} {S : ST} {mm x k : Nat} (h1 : k ≠ x) (h2 : (k : Int) ≠ wayZ P x 3) : (strS P S mm x).1 k = S.1 k := by
  show (loS P S mm x).1 k = S.1 k
  exact (sSet_other (S := sLower S (x : Nat) (takeS P mm (sAt S (x : Nat)))) h2).trans (sSet_other (S := S) (z := (x : Int)) (by omega))
/-- what a stroke has done, undone -/
theorem unstroke {P : PL} {S : ST} {mm x : Nat} (hs : sHi S) (hp : pOK P) (hx : x < pCells P) : (((sSet (sSet (strS P S mm x) (x : Int) (clH (sAt S (x : Int) : Nat))) (wayZ P x 3) (clH (sAt S (wayZ P x 3) : Nat))).1, va_up (va_up S.2.1 mm (S.2.1 mm - 1)) mm (S.2.1 mm), va_up (va_up S.2.2.1 mm x) mm (S.2.2.1 mm), S.2.2.2) : ST) = S := by
  have hc := pCells_le hp
  have hz := wayZ_w hp hx 3
  have e1 : va_up (va_up S.2.1 mm (S.2.1 mm - 1)) mm (S.2.1 mm) = S.2.1 := by
    funext k
    unfold va_up
    split
    · next e => rw [e]
    · rfl
  have e2 : va_up (va_up S.2.2.1 mm x) mm (S.2.2.1 mm) = S.2.2.1 := by
    funext k
    unfold va_up
    split
    · next e => rw [e]
    · rfl
  rw [e1, e2]
  refine Prod.ext ?_ rfl
  show (sSet (sSet (strS P S mm x) (x : Int) (clH (sAt S (x : Int) : Nat))) (wayZ P x 3) (clH (sAt S (wayZ P x 3) : Nat))).1 = S.1
  rw [clH_n (sAt_le hs _), clH_n (sAt_le hs _)]
  funext k
  by_cases q : (k : Int) = wayZ P x 3
  · by_cases hk : k < 24
    · rw [sSet_at q hk, ← q]
      unfold sAt
      rw [if_pos (by omega)]
      rfl
    · omega
  · rw [sSet_other q]
    by_cases q2 : k = x
    · subst q2
      rw [sSet_at rfl (by omega)]
      unfold sAt
      rw [if_pos (by omega)]
      rfl
    · rw [sSet_other (by omega), strS_other q2 q]
theorem tryW_no {P : PL} {mm g fr : Nat} {S : ST} {rec : RO → ST → RO} {R R1 : RO} {i : Nat} (h : R1 = tryW P mm g fr S rec R i) (hw : wayZ P fr i = -1) : R1 = tryW P mm g fr S rec R (i + 1) := by rw [tryW, if_pos hw, h]
theorem tryW_yes {P : PL} {mm g fr x : Nat} {S : ST} {rec : RO → ST → RO} {R R1 : RO} {i : Nat} (h : R1 = tryW P mm g fr S rec R i) (hw : wayZ P fr i = (x : Int)) : rec (va_up R1.1 g x, R1.2) (strS P S mm x) = tryW P mm g fr S rec R (i + 1) := by
  rw [tryW, if_neg (by omega), ← h, hw]
  rfl
