/-! the k-th cell that a step can end in is that of the k-th way there is -/
def wyN (w n k way : Nat) : Int :=
  if way = 0 then (if w ≤ k then ((k - w : Nat) : Int) else -1)
  else if way = 1 then (if 0 < k % w then ((k - 1 : Nat) : Int) else -1)
  else if way = 2 then (k : Int)
  else if way = 3 then (if k % w < w - 1 then ((k + 1 : Nat) : Int) else -1)
  else if way = 4 then (if k + w < n then ((k + w : Nat) : Int) else -1)
  else -1
theorem wyN_eq (P : PL) (k i : Nat) : wayZ P k i = wyN P.2.2.2.1 (pCells P) k i := rfl
def opW (w n hr : Nat) : Nat → Nat → Nat → Int
  | 0, _, _ => -4
  | f + 1, y, r => if y = hr ∨ wyN w n hr 0 = (y : Int) ∨ wyN w n hr 1 = (y : Int) ∨ wyN w n hr 3 = (y : Int) ∨ wyN w n hr 4 = (y : Int) then (if r = 0 then (y : Int) else opW w n hr f (y + 1) (r - 1)) else opW w n hr f (y + 1) r
theorem opW_eq (P : PL) (hr : Nat) : ∀ f y r, optF P hr f y r = opW P.2.2.2.1 (pCells P) hr f y r
  | 0, _, _ => rfl
  | f + 1, y, r => by
    rw [optF, opW, opW_eq P hr f (y + 1) (r - 1), opW_eq P hr f (y + 1) r]
    rfl
/-- the ways there are, by rising number -/
def wysN (w n k : Nat) : List Int := [wyN w n k 0, wyN w n k 1, wyN w n k 2, wyN w n k 3, wyN w n k 4].filter (fun z => z ≠ -1)
theorem op_ways : ∀ w, w < 7 → ∀ r, r < 5 → ∀ x, x < r * w → ∀ c, c < 5 → opW w (r * w) x (r * w) 0 c = ((wysN w (r * w) x)[c]?).getD (-4) := by decide +kernel
theorem option_way {P : PL} (hp : pOK P) {x c : Nat} (hx : x < pCells P) (hc : c < 5) : optF P x (pCells P) 0 c = ((wysN P.2.2.2.1 (pCells P) x)[c]?).getD (-4) := by
  rw [opW_eq]
  exact op_ways _ (by have := hp.2.2.2.1; omega) _ (by have := hp.2.2.2.2.1; omega) x hx c hc
