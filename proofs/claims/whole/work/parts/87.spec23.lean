/-! the k-th cell that a step can end in is that of the k-th way there is -/
def wyN (w n k way : Nat) : Int :=
  if way = 0 then (if w ≤ k then ((k - w : Nat) : Int) else -1)
  else if way = 1 then (if 0 < k % w then ((k - 1 : Nat) : Int) else -1)
  else if way = 2 then (k : Int)
  else if way = 3 then (if k % w < w - 1 then ((k + 1 : Nat) : Int) else -1)
  else if way = 4 then (if k + w < n then ((k + w : Nat) : Int) else -1)
  else -1
theorem wyN_eq (P : PL) (k i : Nat) : wayZ P k i = wyN P.2.2.2.1 (pCells P) k i := rfl
def opW (w n hr : Nat) : Nat → Nat → Nat → Int
  | 0, _, _ => -4
  | f + 1, y, r => if y = hr ∨ wyN w n hr 0 = (y : Int) ∨ wyN w n hr 1 = (y : Int) ∨ wyN w n hr 3 = (y : Int) ∨ wyN w n hr 4 = (y : Int) then (if r = 0 then (y : Int) else opW w n hr f (y + 1) (r - 1)) else opW w n hr f (y + 1) r
theorem opW_eq (P : PL) (hr : Nat) : ∀ f y r, optF P hr f y r = opW P.2.2.2.1 (pCells P) hr f y r
  | 0, _, _ => rfl
  | f + 1, y, r => by
    rw [optF, opW, opW_eq P hr f (y + 1) (r - 1), opW_eq P hr f (y + 1) r]
    rfl
/-- the ways there are, by rising number -/
def wysN (w n k : Nat) : List Int := [wyN w n k 0, wyN w n k 1, wyN w n k 2, wyN w n k 3, wyN w n k 4].filter (fun z => z ≠ -1)
theorem op_ways : ∀ w, w < 7 → ∀ r, r < 5 → ∀ x, x < r * w → ∀ c, c < 5 → opW w (r * w) x (r * w) 0 c = ((wysN w (r * w) x)[c]?).getD (-4) := by decide +kernel
theorem option_way {P : PL} (hp : pOK P) {x c : Nat} (hx : x < pCells P) (hc : c < 5) : optF P x (pCells P) 0 c = ((wysN P.2.2.2.1 (pCells P) x)[c]?).getD (-4) := by
  rw [opW_eq]
  exact op_ways _ (by have := hp.2.2.2.1; omega) _ (by have := hp.2.2.2.2.1; omega) x hx c hc
def foldN {σ : Type} (g : Nat → σ → σ) : Nat → σ → σ
  | 0, s => s
  | n + 1, s => g n (foldN g n s)
theorem fold_list {σ : Type} (F : Int → σ → σ) (s : σ) (L : List Int) (h : L.length ≤ 5) (h4 : ∀ z ∈ L, z ≠ -4) : foldN (fun c s => if (L[c]?).getD (-4) = -4 then s else F ((L[c]?).getD (-4)) s) 5 s = L.foldl (fun s z => F z s) s := by
  match L, h, h4 with
  | [], _, _ => rfl
  | [a], _, h4 => have := h4 a (by simp); simp [foldN, this]
  | [a, b], _, h4 => have h1 := h4 a (by simp); have h2 := h4 b (by simp); simp [foldN, h1, h2]
  | [a, b, c], _, h4 => have h1 := h4 a (by simp); have h2 := h4 b (by simp); have h3 := h4 c (by simp); simp [foldN, h1, h2, h3]
  | [a, b, c, d], _, h4 => have h1 := h4 a (by simp); have h2 := h4 b (by simp); have h3 := h4 c (by simp); have h5 := h4 d (by simp); simp [foldN, h1, h2, h3, h5]
  | [a, b, c, d, e], _, h4 => have h1 := h4 a (by simp); have h2 := h4 b (by simp); have h3 := h4 c (by simp); have h5 := h4 d (by simp); have h6 := h4 e (by simp); simp [foldN, h1, h2, h3, h5, h6]
  | a :: b :: c :: d :: e :: f :: L, h, _ => simp at h
theorem fold_way {σ : Type} (F : Int → σ → σ) (s : σ) (w n k : Nat) : (wysN w n k).foldl (fun s z => F z s) s = foldN (fun i s => if wyN w n k i = -1 then s else F (wyN w n k i) s) 5 s := by
  unfold wysN
  rw [List.foldl_filter]
  simp only [List.foldl_cons, List.foldl_nil, foldN, decide_eq_true_eq, ne_eq, ite_not]
theorem wys_4 (w n k : Nat) : ∀ z ∈ wysN w n k, z ≠ -4 := by
  intro z hz
  have hz := (List.mem_filter.mp hz).1
  simp only [List.mem_cons, List.not_mem_nil, or_false] at hz
  have hr : ∀ i, wyN w n k i = -1 ∨ 0 ≤ wyN w n k i := by
    intro i
    unfold wyN
    (repeat' split) <;> omega
  rcases hz with rfl | rfl | rfl | rfl | rfl
  · have := hr 0; omega
  · have := hr 1; omega
  · have := hr 2; omega
  · have := hr 3; omega
  · have := hr 4; omega
theorem wys_len (w n k : Nat) : (wysN w n k).length ≤ 5 := List.length_filter_le _ _
/-- to go through the five options is to go through the five ways -/
theorem fold_option {σ : Type} {P : PL} (hp : pOK P) {x : Nat} (hx : x < pCells P) (F : Int → σ → σ) (s : σ) : foldN (fun c s => if optF P x (pCells P) 0 c = -4 then s else F (optF P x (pCells P) 0 c) s) 5 s = foldN (fun i s => if wayZ P x i = -1 then s else F (wayZ P x i) s) 5 s := by
  have e : foldN (fun i s => if wayZ P x i = -1 then s else F (wayZ P x i) s) 5 s = foldN (fun i s => if wyN P.2.2.2.1 (pCells P) x i = -1 then s else F (wyN P.2.2.2.1 (pCells P) x i) s) 5 s := rfl
  rw [e, ← fold_way, ← fold_list F s _ (wys_len _ _ _) (wys_4 _ _ _)]
  simp only [foldN]
  rw [option_way hp hx (by omega : 0 < 5), option_way hp hx (by omega : 1 < 5), option_way hp hx (by omega : 2 < 5), option_way hp hx (by omega : 3 < 5), option_way hp hx (by omega : 4 < 5)]
