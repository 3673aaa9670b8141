/-! reading a text -/
abbrev isF (T : LT) (k : Nat) : Prop := 48 ≤ tAt T k ∧ tAt T k ≤ 57
theorem figZ_yes {T : LT} {k : Nat} (h : isF T k) : figZ T k = ((tAt T k - 48 : Nat) : Int) := by unfold figZ; rw [if_pos h]
theorem figZ_no {T : LT} {k : Nat} (h : ¬ isF T k) : figZ T k = -4 := by unfold figZ; rw [if_neg h]
theorem figZ_isF {T : LT} {k : Nat} (h : figZ T k ≠ -4) : isF T k := Classical.byContradiction fun q => h (figZ_no q)
theorem figZ_notF {T : LT} {k : Nat} (h : figZ T k = -4) : ¬ isF T k := fun q => by
  rw [figZ_yes q] at h
  omega
def num1 (T : LT) (k : Nat) : Option (Nat × Nat) := if isF T k then (if isF T (k + 1) then some (10 * (tAt T k - 48) + (tAt T (k + 1) - 48), k + 2) else some (tAt T k - 48, k + 1)) else none
def numS (T : LT) (k sign : Nat) : Option (Nat × Nat) := match num1 T k with
  | none => none
  | some q => if tAt T q.2 = sign then some (q.1, q.2 + 1) else none
def numsF (T : LT) (k : Nat) (f : Nat → Nat) : Nat → Option ((Nat → Nat) × Nat)
  | 0 => some (f, k)
  | i + 1 => match numsF T k f i with
    | none => none
    | some q => match numS T q.2 (if i = 3 then 59 else 44) with
      | none => none
      | some r => some (va_up q.1 i r.1, r.2)
theorem numsF_none {T : LT} {k : Nat} {f : Nat → Nat} {i : Nat} (h : numsF T k f i = none) : ∀ n, numsF T k f (i + n) = none
  | 0 => h
  | n + 1 => by
    show numsF T k f ((i + n) + 1) = none
    rw [numsF, numsF_none h n]
theorem numsF_no {T : LT} {k k1 : Nat} {f g : Nat → Nat} {i : Nat} (hi : i < 4) (h : numsF T k f i = some (g, k1)) (hn : numS T k1 (if i = 3 then 59 else 44) = none) : numsF T k f 4 = none := by
  have h1 : numsF T k f (i + 1) = none := by rw [numsF, h]; show (match numS T k1 (if i = 3 then 59 else 44) with | none => none | some r => some (va_up g i r.1, r.2)) = none; rw [hn]
  have h2 := numsF_none h1 (3 - i)
  rwa [show i + 1 + (3 - i) = 4 by omega] at h2
theorem numsF_yes {T : LT} {k k1 v k2 : Nat} {f g : Nat → Nat} {i : Nat} (h : numsF T k f i = some (g, k1)) (hn : numS T k1 (if i = 3 then 59 else 44) = some (v, k2)) : numsF T k f (i + 1) = some (va_up g i v, k2) := by
  rw [numsF, h]
  show (match numS T k1 (if i = 3 then 59 else 44) with | none => none | some r => some (va_up g i r.1, r.2)) = _
  rw [hn]
theorem numS_no1 {T : LT} {k s : Nat} (h : ¬ isF T k) : numS T k s = none := by
  unfold numS num1
  rw [if_neg h]
theorem numS_no2 {T : LT} {k v k1 s : Nat} (h : num1 T k = some (v, k1)) (hs : tAt T k1 ≠ s) : numS T k s = none := by
  unfold numS
  rw [h]
  show (if tAt T k1 = s then some (v, k1 + 1) else none) = none
  rw [if_neg hs]
theorem numS_yes {T : LT} {k v k1 s : Nat} (h : num1 T k = some (v, k1)) (hs : tAt T k1 = s) : numS T k s = some (v, k1 + 1) := by
  unfold numS
  rw [h]
  show (if tAt T k1 = s then some (v, k1 + 1) else none) = _
  rw [if_pos hs]
theorem num1_one {T : LT} {k : Nat} (h : isF T k) (h2 : ¬ isF T (k + 1)) : num1 T k = some (tAt T k - 48, k + 1) := by
  unfold num1
  rw [if_pos h, if_neg h2]
theorem num1_two {T : LT} {k : Nat} (h : isF T k) (h2 : isF T (k + 1)) : num1 T k = some (10 * (tAt T k - 48) + (tAt T (k + 1) - 48), k + 2) := by
  unfold num1
  rw [if_pos h, if_pos h2]
/-- the four numbers of an item, in the words of nobody's cells -/
def vec4 (a b c d : Nat) : Nat → Nat := fun j => if j = 0 then a else if j = 1 then b else if j = 2 then c else d
def nums4 (T : LT) (k : Nat) : Option ((Nat → Nat) × Nat) := match numsF T k (fun _ => 0) 4 with
  | none => none
  | some q => some (vec4 (q.1 0) (q.1 1) (q.1 2) (q.1 3), q.2)
theorem numsF_same {T : LT} {k : Nat} (f g : Nat → Nat) : ∀ i, i ≤ 4 → (numsF T k f i = none ∧ numsF T k g i = none) ∨ ∃ f1 g1 k1, numsF T k f i = some (f1, k1) ∧ numsF T k g i = some (g1, k1) ∧ ∀ j, j < i → f1 j = g1 j
  | 0, _ => Or.inr ⟨f, g, k, rfl, rfl, fun j h => absurd h (Nat.not_lt_zero j)⟩
  | i + 1, hi => by
    rcases numsF_same f g i (by omega) with ⟨h1, h2⟩ | ⟨f1, g1, k1, h1, h2, h3⟩
    · exact Or.inl ⟨by rw [numsF, h1], by rw [numsF, h2]⟩
    · rcases hq : numS T k1 (if i = 3 then 59 else 44) with _ | ⟨v, k2⟩
      · refine Or.inl ⟨?_, ?_⟩
        · rw [numsF, h1]
          show (match numS T k1 (if i = 3 then 59 else 44) with | none => none | some r => some (va_up f1 i r.1, r.2)) = none
          rw [hq]
        · rw [numsF, h2]
          show (match numS T k1 (if i = 3 then 59 else 44) with | none => none | some r => some (va_up g1 i r.1, r.2)) = none
          rw [hq]
      · refine Or.inr ⟨va_up f1 i v, va_up g1 i v, k2, numsF_yes h1 hq, numsF_yes h2 hq, fun j hj => ?_⟩
        unfold va_up
        split
        · rfl
        · exact h3 j (by omega)
theorem nums4_none {T : LT} {k : Nat} {f : Nat → Nat} (h : numsF T k f 4 = none) : nums4 T k = none := by
  unfold nums4
  rcases numsF_same (T := T) (k := k) f (fun _ => 0) 4 (by omega) with ⟨-, h2⟩ | ⟨f1, g1, k1, h1, h2, h3⟩
  · rw [h2]
  · rw [h1] at h; cases h
theorem nums4_some {T : LT} {k k1 : Nat} {f g : Nat → Nat} (h : numsF T k f 4 = some (g, k1)) : nums4 T k = some (vec4 (g 0) (g 1) (g 2) (g 3), k1) := by
  unfold nums4
  rcases numsF_same (T := T) (k := k) f (fun _ => 0) 4 (by omega) with ⟨h1, -⟩ | ⟨f1, g1, k2, h1, h2, h3⟩
  · rw [h1] at h; cases h
  · rw [h1] at h
    cases h
    rw [h2]
    show some (vec4 (g1 0) (g1 1) (g1 2) (g1 3), k1) = _
    rw [h3 0 (by omega), h3 1 (by omega), h3 2 (by omega), h3 3 (by omega)]
theorem casOK_vec (P : PL) (g : Nat → Nat) : casOK P (vec4 (g 0) (g 1) (g 2) (g 3)) = casOK P g := rfl
theorem maiOK_vec (P : PL) (g : Nat → Nat) : maiOK P (vec4 (g 0) (g 1) (g 2) (g 3)) = maiOK P g := rfl
theorem cpy_vec (g h : Nat → Nat) (d : Nat) : va_cpy (vec4 (g 0) (g 1) (g 2) (g 3)) h 0 d 4 = va_cpy g h 0 d 4 := by
  funext j
  unfold va_cpy
  by_cases q : d ≤ j ∧ j < d + 4
  · rw [if_pos q, if_pos q, Nat.zero_add]
    rcases (show j - d = 0 ∨ j - d = 1 ∨ j - d = 2 ∨ j - d = 3 by omega) with e | e | e | e <;> rw [e] <;> rfl
  · rw [if_neg q, if_neg q]
theorem pCas_vec (P : PL) (g : Nat → Nat) : pCas P (vec4 (g 0) (g 1) (g 2) (g 3)) = pCas P g := by unfold pCas; rw [cpy_vec]
theorem pMai_vec (P : PL) (g : Nat → Nat) : pMai P (vec4 (g 0) (g 1) (g 2) (g 3)) = pMai P g := by unfold pMai; rw [cpy_vec]
/-- how many figures stand from a place on, six at most -/
def runN (T : LT) (k : Nat) : Nat → Nat | 0 => 0 | n + 1 => if runN T k n = n ∧ isF T (k + n) then n + 1 else runN T k n
theorem runN_is {T : LT} {k w : Nat} (h1 : ∀ j, j < w → isF T (k + j)) (h2 : w < 6 → ¬ isF T (k + w)) (hw : w ≤ 6) : runN T k 6 = w := by
  have a : ∀ n, n ≤ w → runN T k n = n := by
    intro n
    induction n with
    | zero => intro _; rfl
    | succ n ih =>
      intro hn
      rw [runN, if_pos ⟨ih (by omega), h1 n (by omega)⟩]
  have b : ∀ n, w + n ≤ 6 → runN T k (w + n) = w := by
    intro n
    induction n with
    | zero => intro _; exact a w (Nat.le_refl _)
    | succ n ih =>
      intro hn
      show runN T k ((w + n) + 1) = w
      rw [runN, ih (by omega), if_neg]
      rintro ⟨q1, q2⟩
      have : n = 0 := by omega
      subst this
      exact h2 (by omega) q2
  have := b (6 - w) (by omega)
  rwa [show w + (6 - w) = 6 by omega] at this
def rowS (T : LT) (P : PL) (k : Nat) : Option (PL × Nat) := if tAt T (k + runN T k 6) = 59 ∧ rowOK P (runN T k 6) then some (pRow P (fun j => tAt T (k + j) - 48) (runN T k 6), k + runN T k 6 + 1) else none
theorem rowFill_congr {f g h : Nat → Nat} {st : Nat} : ∀ w, (∀ j, j < w → g j = h j) → rowFill f st g w = rowFill f st h w
  | 0, _ => rfl
  | w + 1, q => by rw [rowFill, rowFill, rowFill_congr w (fun j hj => q j (by omega)), q w (by omega)]
def itemS (T : LT) (P : PL) (k : Nat) : Option (PL × Nat) :=
  if tAt T k = 114 then rowS T P (k + 1)
  else if tAt T k = 99 then (match nums4 T (k + 1) with | none => none | some q => if casOK P q.1 then some (pCas P q.1, q.2) else none)
  else if tAt T k = 109 then (match nums4 T (k + 1) with | none => none | some q => if maiOK P q.1 then some (pMai P q.1, q.2) else none)
  else none
def readS (T : LT) : Nat → Nat → PL → Option Nat × PL
  | 0, _, P => (none, P)
  | n + 1, k, P => if k < T.2 then (match itemS T P k with | none => (some k, P) | some q => readS T n q.2 q.1) else (none, P)
def pZ (P : PL) : PL := ((fun _ => 0), P.2.1, P.2.2.1, 0, 0, 0, 0)
def faultZ (q : Option Nat × PL) : Int := match q.1 with | none => -4 | some k => k
theorem item_r {T : LT} {P : PL} {k : Nat} (h : tAt T k = 114) : itemS T P k = rowS T P (k + 1) := by unfold itemS; rw [if_pos h]
theorem item_c0 {T : LT} {P : PL} {k : Nat} (h : tAt T k = 99) (hn : nums4 T (k + 1) = none) : itemS T P k = none := by
  unfold itemS
  rw [if_neg (by omega), if_pos h, hn]
theorem item_c1 {T : LT} {P : PL} {k k1 : Nat} {g : Nat → Nat} (h : tAt T k = 99) (hn : nums4 T (k + 1) = some (vec4 (g 0) (g 1) (g 2) (g 3), k1)) (hc : casOK P g) : itemS T P k = some (pCas P g, k1) := by
  unfold itemS
  rw [if_neg (by omega), if_pos h, hn]
  show (if casOK P (vec4 (g 0) (g 1) (g 2) (g 3)) then some (pCas P (vec4 (g 0) (g 1) (g 2) (g 3)), k1) else none) = _
  rw [if_pos (show casOK P (vec4 (g 0) (g 1) (g 2) (g 3)) from hc), pCas_vec]
theorem item_c2 {T : LT} {P : PL} {k k1 : Nat} {g : Nat → Nat} (h : tAt T k = 99) (hn : nums4 T (k + 1) = some (vec4 (g 0) (g 1) (g 2) (g 3), k1)) (hc : ¬ casOK P g) : itemS T P k = none := by
  unfold itemS
  rw [if_neg (by omega), if_pos h, hn]
  show (if casOK P (vec4 (g 0) (g 1) (g 2) (g 3)) then some (pCas P (vec4 (g 0) (g 1) (g 2) (g 3)), k1) else none) = _
  rw [if_neg (show ¬ casOK P (vec4 (g 0) (g 1) (g 2) (g 3)) from hc)]
theorem item_m0 {T : LT} {P : PL} {k : Nat} (h : tAt T k = 109) (hn : nums4 T (k + 1) = none) : itemS T P k = none := by
  unfold itemS
  rw [if_neg (by omega), if_neg (by omega), if_pos h, hn]
theorem item_m1 {T : LT} {P : PL} {k k1 : Nat} {g : Nat → Nat} (h : tAt T k = 109) (hn : nums4 T (k + 1) = some (vec4 (g 0) (g 1) (g 2) (g 3), k1)) (hc : maiOK P g) : itemS T P k = some (pMai P g, k1) := by
  unfold itemS
  rw [if_neg (by omega), if_neg (by omega), if_pos h, hn]
  show (if maiOK P (vec4 (g 0) (g 1) (g 2) (g 3)) then some (pMai P (vec4 (g 0) (g 1) (g 2) (g 3)), k1) else none) = _
  rw [if_pos (show maiOK P (vec4 (g 0) (g 1) (g 2) (g 3)) from hc), pMai_vec]
theorem item_m2 {T : LT} {P : PL} {k k1 : Nat} {g : Nat → Nat} (h : tAt T k = 109) (hn : nums4 T (k + 1) = some (vec4 (g 0) (g 1) (g 2) (g 3), k1)) (hc : ¬ maiOK P g) : itemS T P k = none := by
  unfold itemS
  rw [if_neg (by omega), if_neg (by omega), if_pos h, hn]
  show (if maiOK P (vec4 (g 0) (g 1) (g 2) (g 3)) then some (pMai P (vec4 (g 0) (g 1) (g 2) (g 3)), k1) else none) = _
  rw [if_neg (show ¬ maiOK P (vec4 (g 0) (g 1) (g 2) (g 3)) from hc)]
theorem item_n {T : LT} {P : PL} {k : Nat} (h1 : tAt T k ≠ 114) (h2 : tAt T k ≠ 99) (h3 : tAt T k ≠ 109) : itemS T P k = none := by
  unfold itemS
  rw [if_neg h1, if_neg h2, if_neg h3]
theorem read_in {T : LT} {n k : Nat} {P : PL} (h : k < T.2) : readS T (n + 1) k P = (match itemS T P k with | none => (some k, P) | some q => readS T n q.2 q.1) := by rw [readS, if_pos h]
theorem read_no {T : LT} {n k : Nat} {P : PL} (h : k < T.2) (hi : itemS T P k = none) : readS T (n + 1) k P = (some k, P) := by rw [read_in h, hi]
theorem read_yes {T : LT} {n k k1 : Nat} {P P1 : PL} (h : k < T.2) (hi : itemS T P k = some (P1, k1)) : readS T (n + 1) k P = readS T n k1 P1 := by rw [read_in h, hi]
theorem read_out {T : LT} {k : Nat} {P : PL} (h : ¬ k < T.2) : ∀ n, readS T n k P = (none, P)
  | 0 => rfl
  | n + 1 => by rw [readS, if_neg h]
theorem pZ_ok {P : PL} (h : pOK P) : pOK (pZ P) := by
  obtain ⟨a1, a2, a3, a4, a5, a6, a7⟩ := h
  exact ⟨fun _ => Nat.zero_le _, a2, a3, Nat.zero_le _, Nat.zero_le _, Nat.zero_le _, Nat.zero_le _⟩
theorem va_up_lt {f : Nat → Nat} {b i v : Nat} (h : ∀ k, f k < b) (hv : v < b) (k : Nat) : va_up f i v k < b := by
  unfold va_up
  split
  · exact hv
  · exact h k
theorem va_up_lt1 {Pr : Nat → Nat → Prop} {f : Nat → Nat} {i v : Nat} (h : ∀ j, j < i → Pr j (f j)) (hv : Pr i v) (j : Nat) (hj : j < i + 1) : Pr j (va_up f i v j) := by
  unfold va_up
  by_cases e : j = i
  · rw [if_pos e, e]; exact hv
  · rw [if_neg e]; exact h j (by omega)
