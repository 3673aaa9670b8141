/-! the reference: a whole text -/
def rowR (T : LT) (O : PL) (k : Nat) : Option (PL × Nat) := if rowOK O (runN T k 6) ∧ ¬ isF T (k + runN T k 6) then some (pRow O (fun j => tAt T (k + j) - 48) (runN T k 6), k + runN T k 6) else none
def itmR (T : LT) (O : PL) (z : Int) (k : Nat) : Option (PL × Nat) :=
  if z = 114 then rowR T O k
  else if z = 99 then (match casR T O k with | none => none | some q => some (pCas O (vec4 q.1.1 q.1.2.1 q.1.2.2.1 q.1.2.2.2), q.2))
  else if z = 109 then (match maiR T O k with | none => none | some q => some (pMai O (vec4 q.1.1 q.1.2.1 q.1.2.2.1 q.1.2.2.2), q.2))
  else none
def rN (O : PL) (n1 n2 n3 n4 : Nat) (nt ns nc nd ni nw nr nk na : Nat → Nat) : Prop :=
  n1 = pCells O ∧ n2 = O.2.2.2.1 ∧ n3 = O.2.2.2.2.2.1 ∧ n4 = O.2.2.2.2.2.2 ∧ (∀ k, k < 24 → nt k = O.1 k)
  ∧ (∀ k, k < O.2.2.2.2.2.1 → ns k = O.2.1 (k * 4 + 0) ∧ nc k = O.2.1 (k * 4 + 1) ∧ nd k = O.2.1 (k * 4 + 2) ∧ ni k = O.2.1 (k * 4 + 3))
  ∧ ∀ k, k < O.2.2.2.2.2.2 → nw k = O.2.2.1 (k * 4 + 0) ∧ nr k = O.2.2.1 (k * 4 + 1) ∧ nk k = O.2.2.1 (k * 4 + 2) ∧ na k = O.2.2.1 (k * 4 + 3)
def nB (nt ns nc nd ni nw nr nk na : Nat → Nat) : Prop := (∀ j, nt j < 100) ∧ (∀ j, ns j < 100) ∧ (∀ j, nc j < 100) ∧ (∀ j, nd j < 100) ∧ (∀ j, ni j < 100) ∧ (∀ j, nw j < 100) ∧ (∀ j, nr j < 100) ∧ (∀ j, nk j < 100) ∧ ∀ j, na j < 100
/-- a plan as it is read: the width tells whether there are rows -/
def oOK (O : PL) : Prop := pOK O ∧ (O.2.2.2.2.1 = 0 → O.2.2.2.1 = 0) ∧ (0 < O.2.2.2.2.1 → 0 < O.2.2.2.1)
section READ
variable {T : LT} {O : PL} {k n1 n2 n3 n4 : Nat} {nt ns nc nd ni nw nr nk na : Nat → Nat}
theorem runN_le : ∀ n, runN T k n ≤ n
  | 0 => Nat.le_refl _
  | n + 1 => by
    have := runN_le n
    rw [runN]
    split <;> omega
theorem rowFill_at {f g : Nat → Nat} {st j : Nat} : ∀ n, rowFill f st g n j = if st ≤ j ∧ j < st + n then g (j - st) else f j
  | 0 => by rw [if_neg (by omega)]; rfl
  | n + 1 => by
    rw [rowFill]
    by_cases q : j = st + n
    · subst q
      rw [upEq, if_pos (show st ≤ st + n ∧ st + n < st + (n + 1) by omega), show st + n - st = n by omega]
    · rw [upNe q, rowFill_at n]
      by_cases q2 : st ≤ j ∧ j < st + n
      · rw [if_pos q2, if_pos (show st ≤ j ∧ j < st + (n + 1) by omega)]
      · rw [if_neg q2, if_neg (show ¬ (st ≤ j ∧ j < st + (n + 1)) by omega)]
theorem row_cells {w : Nat} {g : Nat → Nat} (h : rowOK O w) (ho : oOK O) : pCells (pRow O g w) = pCells O + w := by
  obtain ⟨h1, h2, h3, h4⟩ := h
  show (O.2.2.2.2.1 + 1) * w = O.2.2.2.2.1 * O.2.2.2.1 + w
  rw [Nat.succ_mul]
  rcases Nat.eq_zero_or_pos O.2.2.2.2.1 with q | q
  · rw [q, Nat.zero_mul, Nat.zero_mul]
  · rw [← h4 q]
theorem row_rN {w : Nat} {g : Nat → Nat} (h : rowOK O w) (ho : oOK O) (hr : rN O n1 n2 n3 n4 nt ns nc nd ni nw nr nk na) : rN (pRow O g w) (n1 + w) w n3 n4 (rowFill nt n1 g w) ns nc nd ni nw nr nk na := by
  obtain ⟨a1, a2, a3, a4, a5, a6, a7⟩ := hr
  refine ⟨by rw [row_cells h ho, a1], rfl, a3, a4, fun j hj => ?_, a6, a7⟩
  show rowFill nt n1 g w j = rowFill O.1 (pCells O) g w j
  rw [rowFill_at, rowFill_at, a1, a5 j hj]
theorem cpy4 {f g : Nat → Nat} {a i k : Nat} (hi : i < 4) : va_cpy f g 0 (a * 4) 4 (k * 4 + i) = if k = a then f i else g (k * 4 + i) := by
  unfold va_cpy
  by_cases q : k = a
  · subst q
    rw [if_pos (by omega), if_pos rfl, show 0 + (k * 4 + i - k * 4) = i by omega]
  · rw [if_neg (by omega), if_neg q]
theorem cas_rN {a b c d : Nat} (hr : rN O n1 n2 n3 n4 nt ns nc nd ni nw nr nk na) : rN (pCas O (vec4 a b c d)) n1 n2 (n3 + 1) n4 nt (va_up ns n3 a) (va_up nc n3 b) (va_up nd n3 c) (va_up ni n3 d) nw nr nk na := by
  obtain ⟨a1, a2, a3, a4, a5, a6, a7⟩ := hr
  refine ⟨a1, a2, by show n3 + 1 = O.2.2.2.2.2.1 + 1; omega, a4, a5, fun j hj => ?_, a7⟩
  have hj : j < O.2.2.2.2.2.1 + 1 := hj
  show va_up ns n3 a j = va_cpy _ O.2.1 0 (O.2.2.2.2.2.1 * 4) 4 (j * 4 + 0) ∧ va_up nc n3 b j = va_cpy _ O.2.1 0 (O.2.2.2.2.2.1 * 4) 4 (j * 4 + 1) ∧ va_up nd n3 c j = va_cpy _ O.2.1 0 (O.2.2.2.2.2.1 * 4) 4 (j * 4 + 2) ∧ va_up ni n3 d j = va_cpy _ O.2.1 0 (O.2.2.2.2.2.1 * 4) 4 (j * 4 + 3)
  rw [cpy4 (by omega), cpy4 (by omega), cpy4 (by omega), cpy4 (by omega), a3]
  by_cases q : j = O.2.2.2.2.2.1
  · subst q
    rw [if_pos rfl, if_pos rfl, if_pos rfl, if_pos rfl, upEq, upEq, upEq, upEq]
    exact ⟨rfl, rfl, rfl, rfl⟩
  · rw [if_neg q, if_neg q, if_neg q, if_neg q, upNe q, upNe q, upNe q, upNe q]
    exact a6 j (by omega)
theorem mai_rN {a b c d : Nat} (hr : rN O n1 n2 n3 n4 nt ns nc nd ni nw nr nk na) : rN (pMai O (vec4 a b c d)) n1 n2 n3 (n4 + 1) nt ns nc nd ni (va_up nw n4 a) (va_up nr n4 b) (va_up nk n4 c) (va_up na n4 d) := by
  obtain ⟨a1, a2, a3, a4, a5, a6, a7⟩ := hr
  refine ⟨a1, a2, a3, by show n4 + 1 = O.2.2.2.2.2.2 + 1; omega, a5, a6, fun j hj => ?_⟩
  have hj : j < O.2.2.2.2.2.2 + 1 := hj
  show va_up nw n4 a j = va_cpy _ O.2.2.1 0 (O.2.2.2.2.2.2 * 4) 4 (j * 4 + 0) ∧ va_up nr n4 b j = va_cpy _ O.2.2.1 0 (O.2.2.2.2.2.2 * 4) 4 (j * 4 + 1) ∧ va_up nk n4 c j = va_cpy _ O.2.2.1 0 (O.2.2.2.2.2.2 * 4) 4 (j * 4 + 2) ∧ va_up na n4 d j = va_cpy _ O.2.2.1 0 (O.2.2.2.2.2.2 * 4) 4 (j * 4 + 3)
  rw [cpy4 (by omega), cpy4 (by omega), cpy4 (by omega), cpy4 (by omega), a4]
  by_cases q : j = O.2.2.2.2.2.2
  · subst q
    rw [if_pos rfl, if_pos rfl, if_pos rfl, if_pos rfl, upEq, upEq, upEq, upEq]
    exact ⟨rfl, rfl, rfl, rfl⟩
  · rw [if_neg q, if_neg q, if_neg q, if_neg q, upNe q, upNe q, upNe q, upNe q]
    exact a7 j (by omega)
/-- the reference's item is the class's, but for the sign behind it -/
theorem itm_yes {O1 : PL} {k1 : Nat} (ho : oOK O) (h : itmR T O (tAt T k : Nat) (k + 1) = some (O1, k1)) (e : tAt T k1 = 59) : itemS T O k = some (O1, k1 + 1) ∧ oOK O1 := by
  unfold itmR at h
  by_cases q1 : tAt T k = 114
  · rw [if_pos (by omega)] at h
    unfold rowR at h
    by_cases q : rowOK O (runN T (k + 1) 6) ∧ ¬ isF T (k + 1 + runN T (k + 1) 6)
    · rw [if_pos q] at h
      cases h
      rw [item_r q1]
      unfold rowS
      rw [if_pos ⟨e, q.1⟩]
      refine ⟨rfl, ?_, fun h0 => ?_, fun _ => q.1.1⟩
      · obtain ⟨⟨b1, b2, b3, b4, b5, b6, b7⟩, -, -⟩ := ho
        refine ⟨fun j => ?_, b2, b3, q.1.2.1, q.1.2.2.1, b6, b7⟩
        show rowFill O.1 (pCells O) _ _ j ≤ 9
        rw [rowFill_at]
        split
        · next hj =>
          have hf : ∀ n, n ≤ 6 → ∀ i, i < runN T (k + 1) n → isF T (k + 1 + i) := by
            intro n
            induction n with
            | zero => intro _ i hi; exact absurd hi (Nat.not_lt_zero i)
            | succ n ih =>
              intro hn i hi
              rw [runN] at hi
              by_cases c : runN T (k + 1) n = n ∧ isF T (k + 1 + n)
              · rw [if_pos c] at hi
                by_cases e : i = n
                · rw [e]; exact c.2
                · exact ih (by omega) i (by omega)
              · rw [if_neg c] at hi
                exact ih (by omega) i hi
          have := (hf 6 (by omega) (j - pCells O) (by omega)).2
          omega
        · exact b1 j
      · have h0 : O.2.2.2.2.1 + 1 = 0 := h0
        omega
    · rw [if_neg q] at h; cases h
  · rw [if_neg (by omega)] at h
    by_cases q2 : tAt T k = 99
    · rw [if_pos (by omega)] at h
      rcases hc : casR T O (k + 1) with _ | ⟨⟨a, b, c, d⟩, k4⟩
      · rw [hc] at h; cases h
      · rw [hc] at h
        cases h
        obtain ⟨n4, ok, ha, hb, hcc, hd⟩ := cas_bwd ho.1 hc e
        refine ⟨item_c1 (g := vec4 a b c d) q2 n4 ok, pCas_ok ho.1 (fun j => ?_) ok, ho.2⟩
        show vec4 a b c d j < 100
        unfold vec4
        (repeat' split) <;> omega
    · rw [if_neg (by omega)] at h
      by_cases q3 : tAt T k = 109
      · rw [if_pos (by omega)] at h
        rcases hc : maiR T O (k + 1) with _ | ⟨⟨a, b, c, d⟩, k4⟩
        · rw [hc] at h; cases h
        · rw [hc] at h
          cases h
          obtain ⟨n4, ok, ha, hb, hcc, hd⟩ := mai_bwd ho.1 hc e
          refine ⟨item_m1 (g := vec4 a b c d) q3 n4 ok, pMai_ok ho.1 (fun j => ?_) ok, ho.2⟩
          show vec4 a b c d j < 100
          unfold vec4
          (repeat' split) <;> omega
      · rw [if_neg (by omega)] at h; cases h
theorem itm_no (h : ∀ O1 k1, itmR T O (tAt T k : Nat) (k + 1) = some (O1, k1) → tAt T k1 ≠ 59) : itemS T O k = none := by
  by_cases q1 : tAt T k = 114
  · rw [item_r q1]
    unfold rowS
    rw [if_neg]
    rintro ⟨e, ok⟩
    refine h (pRow O (fun j => tAt T (k + 1 + j) - 48) (runN T (k + 1) 6)) _ ?_ e
    unfold itmR rowR
    rw [if_pos (by omega), if_pos ⟨ok, by omega⟩]
  · by_cases q2 : tAt T k = 99
    · rcases hn : nums4 T (k + 1) with _ | ⟨g, k4⟩
      · exact item_c0 q2 hn
      · have hg : g = vec4 (g 0) (g 1) (g 2) (g 3) := by
          obtain ⟨_, _, _, _, _, _, _, hg⟩ := nums4_inv hn
          exact hg
        by_cases ok : casOK O g
        · exfalso
          obtain ⟨k5, hc, e⟩ := cas_fwd hn ok
          refine h (pCas O (vec4 (g 0) (g 1) (g 2) (g 3))) _ ?_ e
          unfold itmR
          rw [if_neg (by omega), if_pos (by omega), hc]
        · exact item_c2 q2 (by rw [← hg]; exact hn) ok
    · by_cases q3 : tAt T k = 109
      · rcases hn : nums4 T (k + 1) with _ | ⟨g, k4⟩
        · exact item_m0 q3 hn
        · have hg : g = vec4 (g 0) (g 1) (g 2) (g 3) := by
            obtain ⟨_, _, _, _, _, _, _, hg⟩ := nums4_inv hn
            exact hg
          by_cases ok : maiOK O g
          · exfalso
            obtain ⟨k5, hc, e⟩ := mai_fwd hn ok
            refine h (pMai O (vec4 (g 0) (g 1) (g 2) (g 3))) _ ?_ e
            unfold itmR
            rw [if_neg (by omega), if_neg (by omega), if_pos (by omega), hc]
          · exact item_m2 q3 (by rw [← hg]; exact hn) ok
      · exact item_n q1 q2 q3
end READ
