/-! chairs, column by column -/
def freeN (P : PL) (S : ST) (col h : Nat) : Nat → Nat | 0 => 0 | r + 1 => if sAt S ((r * P.2.2.2.1 + col : Nat) : Int) ≤ h then freeN P S col h r ||| 2 ^ r else freeN P S col h r
theorem freeN_lt {P : PL} {S : ST} {col h : Nat} : ∀ r, freeN P S col h r < 2 ^ r
  | 0 => by simp [freeN]
  | r + 1 => by
    have h1 := freeN_lt (P := P) (S := S) (col := col) (h := h) r
    have h2 : 2 ^ (r + 1) = 2 * 2 ^ r := by rw [Nat.pow_succ, Nat.mul_comm]
    rw [freeN]
    split
    · exact Nat.or_lt_two_pow (by omega) (by omega)
    · omega
theorem freeN_16 {P : PL} {S : ST} {col h : Nat} {r : Nat} (hr : r ≤ 4) : freeN P S col h r < 16 := Nat.lt_of_lt_of_le (freeN_lt r) (Nat.pow_le_pow_right (n := 2) (by omega) hr)
def mostW (bf : Nat → Int) (fl : Nat) : Nat → Int | 0 => 0 | l + 1 => if l &&& fl = 0 then max (mostW bf fl l) (bf l) else mostW bf fl l
abbrev canF (fl fr : Nat) : Prop := fl &&& fr = fl ∧ fl &&& (fl / 2 ^ 1) = 0
def stepV (bf : Nat → Int) (fr fl : Nat) : Int := if canF fl fr then mostW bf fl 16 + (popN fl 6 : Nat) else -1
def seatN (P : PL) (S : ST) (h : Nat) : Nat → Nat → Int | 0 => fun l => if l = 0 then 0 else -1 | c + 1 => fun l => stepV (seatN P S h c) (freeN P S c h P.2.2.2.2.1) l
def maxTo (bf : Nat → Int) : Nat → Int | 0 => 0 | l + 1 => max (maxTo bf l) (bf l)
def seatR (P : PL) (S : ST) (h : Nat) : Int := maxTo (seatN P S h P.2.2.2.1) 16
theorem popN_le (a : Nat) : ∀ n, popN a n ≤ n
  | 0 => Nat.le_refl 0
  | n + 1 => by
    have := popN_le a n
    have := Nat.mod_lt (a / 2 ^ n) (show 0 < 2 by omega)
    rw [popN]
    omega
theorem mostW_rng {bf : Nat → Int} {b : Int} (hb : 0 ≤ b) (h : ∀ l, l < 16 → -1 ≤ bf l ∧ bf l ≤ b) {fl : Nat} : ∀ n, n ≤ 16 → 0 ≤ mostW bf fl n ∧ mostW bf fl n ≤ b
  | 0, _ => ⟨Int.le_refl 0, hb⟩
  | n + 1, hn => by
    have h1 := mostW_rng hb h (fl := fl) n (by omega)
    have h2 := h n (by omega)
    rw [mostW]
    split <;> omega
theorem stepV_rng {bf : Nat → Int} {b : Int} (hb : 0 ≤ b) (h : ∀ l, l < 16 → -1 ≤ bf l ∧ bf l ≤ b) (fr fl : Nat) : -1 ≤ stepV bf fr fl ∧ stepV bf fr fl ≤ b + 6 := by
  unfold stepV
  have h1 := mostW_rng hb h (fl := fl) 16 (by omega)
  have h2 := popN_le fl 6
  split <;> omega
theorem seatN_rng {P : PL} {S : ST} {h : Nat} : ∀ c l, -1 ≤ seatN P S h c l ∧ seatN P S h c l ≤ c * 6
  | 0, l => by
    rw [seatN]
    show -1 ≤ (if l = 0 then (0 : Int) else -1) ∧ (if l = 0 then (0 : Int) else -1) ≤ ((0 : Nat) : Int) * 6
    split <;> omega
  | c + 1, l => by
    have h1 := stepV_rng (bf := seatN P S h c) (b := c * 6) (by omega) (fun l _ => seatN_rng c l) (freeN P S c h P.2.2.2.2.1) l
    rw [seatN]
    show -1 ≤ stepV _ _ _ ∧ stepV _ _ _ ≤ ((c + 1 : Nat) : Int) * 6
    omega
theorem mostW_congr {f g : Nat → Int} {fl : Nat} : ∀ n, (∀ l, l < n → f l = g l) → mostW f fl n = mostW g fl n
  | 0, _ => rfl
  | n + 1, h => by rw [mostW, mostW, mostW_congr n (fun l hl => h l (by omega)), h n (by omega)]
theorem maxTo_congr {f g : Nat → Int} : ∀ n, (∀ l, l < n → f l = g l) → maxTo f n = maxTo g n
  | 0, _ => rfl
  | n + 1, h => by rw [maxTo, maxTo, maxTo_congr n (fun l hl => h l (by omega)), h n (by omega)]
theorem stepV_congr {f g : Nat → Int} {fr fl : Nat} (h : ∀ l, l < 16 → f l = g l) : stepV f fr fl = stepV g fr fl := by unfold stepV; rw [mostW_congr 16 h]
theorem maxTo_rng {bf : Nat → Int} {b : Int} (hb : 0 ≤ b) (h : ∀ l, l < 16 → -1 ≤ bf l ∧ bf l ≤ b) : ∀ n, n ≤ 16 → 0 ≤ maxTo bf n ∧ maxTo bf n ≤ b
  | 0, _ => ⟨Int.le_refl 0, hb⟩
  | n + 1, hn => by
    have h1 := maxTo_rng hb h n (by omega)
    have h2 := h n (by omega)
    rw [maxTo]
    omega
theorem xor_free : ∀ fl, fl < 16 → ∀ fr, fr < 16 → (nI fl &&& (nI fr ^^^ jI (-1))) = nI (if fl &&& fr = fl then 0 else 1) ∨ ((nI fl &&& (nI fr ^^^ jI (-1))).toInt ≠ 0 ∧ fl &&& fr ≠ fl) := by decide +kernel
theorem xor_free0 {fl fr : Nat} (h1 : fl < 16) (h2 : fr < 16) : (nI fl &&& (nI fr ^^^ jI (-1))).toInt = 0 ↔ fl &&& fr = fl := by
  rcases xor_free fl h1 fr h2 with h | ⟨h, q⟩
  · rw [h]
    by_cases e : fl &&& fr = fl
    · rw [if_pos e]; exact ⟨fun _ => e, fun _ => rfl⟩
    · rw [if_neg e]; exact ⟨fun q => absurd q (by decide), fun q => absurd q e⟩
  · exact ⟨fun e => absurd e h, fun e => absurd e q⟩
/-! smoothing: the fewest strokes by which a cell is smooth, from a place and a height -/
def lowS (P : PL) (mm x h y : Nat) : Nat := if y = x then h - takeS P mm h else if wayZ P y 3 = (x : Int) then h - takeA P mm else h
theorem lowS_le (P : PL) (mm x h y : Nat) : lowS P mm x h y ≤ h := by
  unfold lowS
  repeat' split
  all_goals omega
def fwZ (P : PL) (mm x : Nat) : Nat → Nat → Nat → Int
  | 0, _, h => if h = 0 then 0 else -4
  | n + 1, k, h => if fwZ P mm x n k h ≠ -4 then fwZ P mm x n k h
    else if ∃ i, i < 5 ∧ wayZ P k i ≠ -1 ∧ fwZ P mm x n (wayZ P k i).toNat (lowS P mm x h (wayZ P k i).toNat) = n then ((n + 1 : Nat) : Int) else -4
/-- the first way that leads on, with n strokes to go -/
def fsI (t : Nat → Nat → Int) (P : PL) (mm x k h : Nat) (n : Int) : Nat → Int
  | 0 => -1
  | i + 1 => if fsI t P mm x k h n i ≠ -1 then fsI t P mm x k h n i else if wayZ P k i ≠ -1 ∧ t (wayZ P k i).toNat (lowS P mm x h (wayZ P k i).toNat) = n then wayZ P k i else -1
theorem freeN_16_ (P : PL) (S : ST) (col h : Nat) (hp : pOK P) : freeN P S col h P.2.2.2.2.1 < 16 := freeN_16 hp.2.2.2.2.1
theorem va_up_all {α : Type} {Pr : Nat → α → Prop} {f : Nat → α} {i : Nat} {v : α} (h : ∀ j, j < i → Pr j (f j)) (hv : Pr i v) (j : Nat) (hj : j < i + 1) : Pr j (va_up f i v j) := by
  unfold va_up
  by_cases e : j = i
  · rw [if_pos e, e]; exact hv
  · rw [if_neg e]; exact h j (by omega)
theorem seat_next {P : PL} {S : ST} {h c : Nat} {T : SE} {u : Nat → Int} (hT : ∀ l, l < 16 → T.1 l = seatN P S h c l) (hu : ∀ j, j < 16 → u j = stepV T.1 (freeN P S c h P.2.2.2.2.1) j) : ∀ l, l < 16 → u l = seatN P S h (c + 1) l := fun l hl => by
  rw [hu l hl, seatN]
  exact stepV_congr hT
theorem fs_miss {t : Nat → Nat → Int} {P : PL} {mm x k h i : Nat} {n : Int} (hf : fsI t P mm x k h n i = -1) (hc : wayZ P k i = -1 ∨ ¬ t (wayZ P k i).toNat (lowS P mm x h (wayZ P k i).toNat) = n) : fsI t P mm x k h n (i + 1) = -1 := by
  rw [fsI, if_neg (fun q => q hf), if_neg (fun q => hc.elim (fun e => q.1 e) (fun e => e q.2))]
theorem fs_stay {t : Nat → Nat → Int} {P : PL} {mm x k h : Nat} {n : Int} : ∀ {i : Nat} (j : Nat), fsI t P mm x k h n i ≠ -1 → fsI t P mm x k h n (i + j) = fsI t P mm x k h n i
  | _, 0, _ => rfl
  | i, j + 1, hf => by
    have h1 := fs_stay j hf
    show fsI t P mm x k h n ((i + j) + 1) = _
    rw [fsI, if_pos (by rw [h1]; exact hf), h1]
theorem fs_hit {t : Nat → Int} {P : PL} {mm x k h i y : Nat} {n : Int} (hf : fsI (fun k h => t (k * 41 + h)) P mm x k h n i = -1) (hy : wayZ P k i = (y : Int)) (hi : i < 5) (ht : t (y * 41 + lowS P mm x h y) = n) : nI y = jI (fsI (fun k h => t (k * 41 + h)) P mm x k h n 5) := by
  have h1 : fsI (fun k h => t (k * 41 + h)) P mm x k h n (i + 1) = (y : Int) := by
    rw [fsI, if_neg (fun q => q hf), if_pos ⟨by omega, by rw [hy]; exact ht⟩, hy]
  have h2 := fs_stay (4 - i) (show fsI (fun k h => t (k * 41 + h)) P mm x k h n (i + 1) ≠ -1 by rw [h1]; omega)
  rw [show i + 1 + (4 - i) = 5 by omega, h1] at h2
  rw [h2, jI_nat]
theorem fsI_rng (t : Nat → Nat → Int) (P : PL) (mm x k h : Nat) (n : Int) (hk : k < pCells P) : ∀ i, -1 ≤ fsI t P mm x k h n i ∧ fsI t P mm x k h n i < pCells P
  | 0 => by
    rw [fsI]
    omega
  | i + 1 => by
    have h1 := fsI_rng t P mm x k h n hk i
    have h2 := wayZ_rng hk i
    rw [fsI]
    split
    · exact h1
    · split <;> omega
theorem fs_none {t : Nat → Nat → Int} {P : PL} {mm x k h : Nat} {n : Int} : ∀ {i : Nat}, fsI t P mm x k h n i = -1 → ∀ j, j < i → wayZ P k j = -1 ∨ ¬ t (wayZ P k j).toNat (lowS P mm x h (wayZ P k j).toNat) = n
  | 0, _, j, hj => absurd hj (Nat.not_lt_zero j)
  | i + 1, hf, j, hj => by
    rw [fsI] at hf
    by_cases q : fsI t P mm x k h n i = -1
    · rw [if_neg (fun e => e q)] at hf
      rcases Nat.lt_or_ge j i with hji | hji
      · exact fs_none q j hji
      · obtain rfl : j = i := by omega
        by_cases e1 : wayZ P k j = -1
        · exact Or.inl e1
        · refine Or.inr fun e2 => ?_
          rw [if_pos ⟨e1, e2⟩] at hf
          exact e1 hf
    · rw [if_pos q] at hf
      exact absurd hf q
theorem fs_some {t : Nat → Nat → Int} {P : PL} {mm x k h : Nat} {n : Int} : ∀ {i : Nat}, fsI t P mm x k h n i ≠ -1 → ∃ j, j < i ∧ wayZ P k j ≠ -1 ∧ t (wayZ P k j).toNat (lowS P mm x h (wayZ P k j).toNat) = n ∧ fsI t P mm x k h n i = wayZ P k j ∧ ∀ j2, j2 < j → wayZ P k j2 = -1 ∨ ¬ t (wayZ P k j2).toNat (lowS P mm x h (wayZ P k j2).toNat) = n
  | 0, hf => absurd rfl hf
  | i + 1, hf => by
    rw [fsI] at hf ⊢
    by_cases q : fsI t P mm x k h n i = -1
    · rw [if_neg (fun e => e q)] at hf ⊢
      by_cases e : wayZ P k i ≠ -1 ∧ t (wayZ P k i).toNat (lowS P mm x h (wayZ P k i).toNat) = n
      · rw [if_pos e] at hf ⊢
        exact ⟨i, by omega, e.1, e.2, rfl, fs_none q⟩
      · rw [if_neg e] at hf
        exact absurd rfl hf
    · rw [if_pos q]
      obtain ⟨j, h1, h2, h3, h4, h5⟩ := fs_some q
      exact ⟨j, by omega, h2, h3, h4, h5⟩
theorem fs_congr {t t2 : Nat → Nat → Int} {P : PL} {mm x k h : Nat} {n : Int} (hk : k < pCells P) (ht : ∀ y l, y < pCells P → l ≤ h → (t y l = n ↔ t2 y l = n)) : ∀ i, fsI t P mm x k h n i = fsI t2 P mm x k h n i
  | 0 => rfl
  | i + 1 => by
    rw [fsI, fsI, fs_congr hk ht i]
    by_cases q : fsI t2 P mm x k h n i ≠ -1
    · rw [if_pos q, if_pos q]
    · rw [if_neg q, if_neg q]
      by_cases e : wayZ P k i = -1
      · rw [if_neg (fun z => z.1 e), if_neg (fun z => z.1 e)]
      · have h1 := wayZ_rng hk i
        have h2 := ht (wayZ P k i).toNat (lowS P mm x h (wayZ P k i).toNat) (by omega) (lowS_le _ _ _ _ _)
        by_cases e2 : t (wayZ P k i).toNat (lowS P mm x h (wayZ P k i).toNat) = n
        · rw [if_pos ⟨e, e2⟩, if_pos ⟨e, h2.mp e2⟩]
        · rw [if_neg (fun z => e2 z.2), if_neg (fun z => e2 (h2.mpr z.2))]
theorem fw_rng (P : PL) (mm x : Nat) : ∀ n k h, fwZ P mm x n k h = -4 ∨ (0 ≤ fwZ P mm x n k h ∧ fwZ P mm x n k h ≤ n)
  | 0, k, h => by
    rw [fwZ]
    split <;> omega
  | n + 1, k, h => by
    rw [fwZ]
    have h1 := fw_rng P mm x n k h
    split
    · omega
    · split <;> omega
theorem fw_stay {P : PL} {mm x n k h : Nat} (hq : fwZ P mm x n k h ≠ -4) : fwZ P mm x (n + 1) k h = fwZ P mm x n k h := by rw [fwZ, if_pos hq]
theorem fw_stays {P : PL} {mm x n k h : Nat} (hq : fwZ P mm x n k h ≠ -4) : ∀ j, fwZ P mm x (n + j) k h = fwZ P mm x n k h
  | 0 => rfl
  | j + 1 => by
    have h1 := fw_stays hq j
    show fwZ P mm x ((n + j) + 1) k h = _
    rw [fw_stay (by rw [h1]; exact hq), h1]
theorem fw_eq {P : PL} {mm x n k h : Nat} : fwZ P mm x (n + 1) k h = (n : Int) ↔ fwZ P mm x n k h = (n : Int) := by
  rw [fwZ]
  by_cases q : fwZ P mm x n k h ≠ -4
  · rw [if_pos q]
  · rw [if_neg q]
    split <;> omega
theorem fw_new {P : PL} {mm x n k h : Nat} (q : fwZ P mm x n k h = -4) (hk : k < pCells P) : fwZ P mm x (n + 1) k h = if fsI (fwZ P mm x n) P mm x k h n 5 ≠ -1 then ((n + 1 : Nat) : Int) else -4 := by
  rw [fwZ, if_neg (fun e => e q)]
  by_cases f : fsI (fwZ P mm x n) P mm x k h n 5 = -1
  · rw [if_neg (show ¬ (fsI (fwZ P mm x n) P mm x k h n 5 ≠ -1) from fun e => e f), if_neg]
    rintro ⟨i, h1, h2, h3⟩
    exact (fs_none f i h1).elim (fun e => h2 e) (fun e => e h3)
  · obtain ⟨j, h1, h2, h3, h4, h5⟩ := fs_some f
    rw [if_pos (show fsI (fwZ P mm x n) P mm x k h n 5 ≠ -1 from f), if_pos ⟨j, h1, h2, h3⟩]
/-- a table that holds what n rounds find -/
def tblOK (P : PL) (mm x hi : Nat) (f : Nat → Int) (n : Nat) : Prop := ∀ k h, k < pCells P → h ≤ hi → f (k * 41 + h) = fwZ P mm x n k h
theorem fw_zero (P : PL) (mm x : Nat) : ∀ n k, fwZ P mm x n k 0 = 0
  | 0, k => by rw [fwZ]; rfl
  | n + 1, k => by
    have h1 := fw_zero P mm x n k
    rw [fw_stay (by rw [h1]; omega), h1]
theorem va_up_rng {f : Nat → Int} {i : Nat} {v : Int} (h : ∀ k, -4 ≤ f k ∧ f k ≤ 100) (hv : -4 ≤ v ∧ v ≤ 100) (k : Nat) : -4 ≤ va_up f i v k ∧ va_up f i v k ≤ 100 := by
  unfold va_up
  split
  · exact hv
  · exact h k
section TBL
variable {P : PL} {mm x hh pl h1 n0 : Nat} {f g : Nat → Int}
theorem tbl_open (hf : ∀ k h, k < pCells P → h ≤ hh → f (k * 41 + h) = fwZ P mm x (if k < pl then n0 + 1 else n0) k h) : ∀ k h, k < pCells P → h ≤ hh → f (k * 41 + h) = fwZ P mm x (if k < pl ∨ (k = pl ∧ h < 1) then n0 + 1 else n0) k h := fun k h a b => by
  rw [hf k h a b]
  by_cases q : k < pl
  · rw [if_pos q, if_pos (Or.inl q)]
  · rw [if_neg q]
    by_cases q2 : k = pl ∧ h < 1
    · rw [if_pos (Or.inr q2), show h = 0 by omega, fw_zero, fw_zero]
    · rw [if_neg (fun z => z.elim q q2)]
theorem tbl_row (hg : ∀ k h, k < pCells P → h ≤ hh → g (k * 41 + h) = fwZ P mm x (if k < pl ∨ (k = pl ∧ h < h1) then n0 + 1 else n0) k h) (hl : hh < h1) : ∀ k h, k < pCells P → h ≤ hh → g (k * 41 + h) = fwZ P mm x (if k < pl + 1 then n0 + 1 else n0) k h := fun k h a b => by
  rw [hg k h a b]
  by_cases q : k < pl + 1
  · rw [if_pos q, if_pos (by omega)]
  · rw [if_neg q, if_neg (by omega)]
theorem tbl_cur (hg : ∀ k h, k < pCells P → h ≤ hh → g (k * 41 + h) = fwZ P mm x (if k < pl ∨ (k = pl ∧ h < h1) then n0 + 1 else n0) k h) (hp : pl < pCells P) (hl : h1 ≤ hh) : g (pl * 41 + h1) = fwZ P mm x n0 pl h1 := by
  rw [hg pl h1 hp hl, if_neg (by omega)]
theorem tbl_keep (hg : ∀ k h, k < pCells P → h ≤ hh → g (k * 41 + h) = fwZ P mm x (if k < pl ∨ (k = pl ∧ h < h1) then n0 + 1 else n0) k h) (e : fwZ P mm x (n0 + 1) pl h1 = fwZ P mm x n0 pl h1) : ∀ k h, k < pCells P → h ≤ hh → g (k * 41 + h) = fwZ P mm x (if k < pl ∨ (k = pl ∧ h < h1 + 1) then n0 + 1 else n0) k h := fun k h a b => by
  rw [hg k h a b]
  by_cases q : k = pl ∧ h = h1
  · obtain ⟨rfl, rfl⟩ := q
    rw [if_neg (by omega), if_pos (by omega), e]
  · by_cases q2 : k < pl ∨ (k = pl ∧ h < h1)
    · rw [if_pos q2, if_pos (by omega)]
    · rw [if_neg q2, if_neg (by omega)]
theorem tbl_set (hg : ∀ k h, k < pCells P → h ≤ hh → g (k * 41 + h) = fwZ P mm x (if k < pl ∨ (k = pl ∧ h < h1) then n0 + 1 else n0) k h) (hl : h1 ≤ 40 ∧ hh ≤ 40) (e : fwZ P mm x (n0 + 1) pl h1 = ((n0 + 1 : Nat) : Int)) : ∀ k h, k < pCells P → h ≤ hh → va_up g (pl * 41 + h1) ((n0 + 1 : Nat) : Int) (k * 41 + h) = fwZ P mm x (if k < pl ∨ (k = pl ∧ h < h1 + 1) then n0 + 1 else n0) k h := fun k h a b => by
  unfold va_up
  by_cases q : k = pl ∧ h = h1
  · obtain ⟨rfl, rfl⟩ := q
    rw [if_pos rfl, if_pos (by omega), e]
  · rw [if_neg (by omega), hg k h a b]
    by_cases q2 : k < pl ∨ (k = pl ∧ h < h1)
    · rw [if_pos q2, if_pos (by omega)]
    · rw [if_neg q2, if_neg (by omega)]
theorem tbl_iff (hg : ∀ k h, k < pCells P → h ≤ hh → g (k * 41 + h) = fwZ P mm x (if k < pl ∨ (k = pl ∧ h < h1) then n0 + 1 else n0) k h) (hl : h1 ≤ hh) (y l : Nat) (hy : y < pCells P) (hlh : l ≤ h1) : (fun a b => g (a * 41 + b)) y l = (n0 : Int) ↔ fwZ P mm x n0 y l = (n0 : Int) := by
  show g (y * 41 + l) = (n0 : Int) ↔ _
  rw [hg y l hy (by omega)]
  split
  · exact fw_eq
  · exact Iff.rfl
end TBL
theorem fw_back {P : PL} {mm x : Nat} : ∀ {N k h n : Nat}, fwZ P mm x N k h = ((n + 1 : Nat) : Int) → ∃ i, i < 5 ∧ wayZ P k i ≠ -1 ∧ fwZ P mm x N (wayZ P k i).toNat (lowS P mm x h (wayZ P k i).toNat) = (n : Int)
  | 0, k, h, n, hq => by
    rw [fwZ] at hq
    split at hq <;> omega
  | N + 1, k, h, n, hq => by
    by_cases q : fwZ P mm x N k h = -4
    · rw [fwZ, if_neg (fun e => e q)] at hq
      split at hq
      · next e =>
        obtain ⟨i, h1, h2, h3⟩ := e
        have hn : N = n := by omega
        subst hn
        exact ⟨i, h1, h2, fw_eq.mpr h3⟩
      · omega
    · rw [fw_stay q] at hq
      obtain ⟨i, h1, h2, h3⟩ := fw_back hq
      exact ⟨i, h1, h2, by rw [fw_stay (by rw [h3]; omega), h3]⟩
theorem fw_on {P : PL} {mm x N k h n : Nat} (hq : fwZ P mm x N k h = ((n + 1 : Nat) : Int)) : fsI (fwZ P mm x N) P mm x k h n 5 ≠ -1 := fun f => by
  obtain ⟨i, h1, h2, h3⟩ := fw_back hq
  exact (fs_none f i h1).elim (fun e => h2 e) (fun e => e h3)
theorem fw_next {P : PL} {mm x N k h n : Nat} (hk : k < pCells P) (hq : fwZ P mm x N k h = ((n + 1 : Nat) : Int)) : ∃ y : Nat, fsI (fwZ P mm x N) P mm x k h n 5 = (y : Int) ∧ y < pCells P ∧ fwZ P mm x N y (lowS P mm x h y) = (n : Int) := by
  have h0 := fw_on hq
  obtain ⟨j, h1, h2, h3, h4, -⟩ := fs_some h0
  have h5 := wayZ_rng hk j
  refine ⟨(wayZ P k j).toNat, by rw [h4]; omega, by omega, h3⟩
theorem fw_val {P : PL} {mm x n0 k h n : Nat} (hn : n ≤ n0) : ∀ d, (fwZ P mm x n0 k h = (n : Int) ↔ fwZ P mm x (n0 + d) k h = (n : Int))
  | 0 => Iff.rfl
  | d + 1 => by
    rw [fw_val hn d]
    show _ ↔ fwZ P mm x ((n0 + d) + 1) k h = (n : Int)
    by_cases q : fwZ P mm x (n0 + d) k h = -4
    · rw [q, fwZ, if_neg (fun e => e q)]
      split <;> omega
    · rw [fw_stay q]
/-- the row of strokes: where she is, and how high the cell is, behind i of them -/
def walkS (t : Nat → Nat → Int) (P : PL) (mm x s k0 h0 : Nat) : Nat → Nat × Nat
  | 0 => (k0, h0)
  | i + 1 => ((fsI t P mm x (walkS t P mm x s k0 h0 i).1 (walkS t P mm x s k0 h0 i).2 ((s - i - 1 : Nat) : Int) 5).toNat, lowS P mm x (walkS t P mm x s k0 h0 i).2 (fsI t P mm x (walkS t P mm x s k0 h0 i).1 (walkS t P mm x s k0 h0 i).2 ((s - i - 1 : Nat) : Int) 5).toNat)
theorem walkS_in {P : PL} {mm x s k0 h0 N : Nat} (hk : k0 < pCells P) (hq : fwZ P mm x N k0 h0 = (s : Int)) : ∀ i, i ≤ s → (walkS (fwZ P mm x N) P mm x s k0 h0 i).1 < pCells P ∧ (walkS (fwZ P mm x N) P mm x s k0 h0 i).2 ≤ h0 ∧ fwZ P mm x N (walkS (fwZ P mm x N) P mm x s k0 h0 i).1 (walkS (fwZ P mm x N) P mm x s k0 h0 i).2 = ((s - i : Nat) : Int)
  | 0, _ => ⟨hk, Nat.le_refl _, hq⟩
  | i + 1, hi => by
    obtain ⟨h1, h2, h3⟩ := walkS_in hk hq i (by omega)
    obtain ⟨y, h4, h5, h6⟩ := fw_next (n := s - i - 1) h1 (by rw [h3]; omega)
    rw [walkS]
    show (fsI _ P mm x _ _ _ 5).toNat < _ ∧ lowS P mm x _ (fsI _ P mm x _ _ _ 5).toNat ≤ h0 ∧ fwZ P mm x N (fsI _ P mm x _ _ _ 5).toNat (lowS P mm x _ (fsI _ P mm x _ _ _ 5).toNat) = _
    rw [h4]
    exact ⟨h5, Nat.le_trans (lowS_le _ _ _ _ _) h2, h6⟩
theorem walkS_same {P : PL} {mm x s k0 h0 n0 d : Nat} (hk : k0 < pCells P) (hs : s ≤ n0) (hq : fwZ P mm x n0 k0 h0 = (s : Int)) : ∀ i, i ≤ s → walkS (fwZ P mm x n0) P mm x s k0 h0 i = walkS (fwZ P mm x (n0 + d)) P mm x s k0 h0 i
  | 0, _ => rfl
  | i + 1, hi => by
    have h1 := walkS_same (d := d) hk hs hq i (by omega)
    obtain ⟨h2, -, -⟩ := walkS_in hk hq i (by omega)
    have h3 : fsI (fwZ P mm x n0) P mm x (walkS (fwZ P mm x n0) P mm x s k0 h0 i).1 (walkS (fwZ P mm x n0) P mm x s k0 h0 i).2 ((s - i - 1 : Nat) : Int) 5 = fsI (fwZ P mm x (n0 + d)) P mm x (walkS (fwZ P mm x n0) P mm x s k0 h0 i).1 (walkS (fwZ P mm x n0) P mm x s k0 h0 i).2 ((s - i - 1 : Nat) : Int) 5 := fs_congr h2 (fun y l _ _ => fw_val (by omega) d) 5
    rw [walkS, walkS, h3, h1]
theorem fw_end {P : PL} {mm x k h n0 L : Nat} (hn : n0 ≤ L) (hq : fwZ P mm x n0 k h ≠ -4 ∨ n0 = L) : fwZ P mm x n0 k h = fwZ P mm x L k h := by
  rcases hq with q | q
  · have := fw_stays q (L - n0)
    rwa [show n0 + (L - n0) = L by omega, eq_comm] at this
  · rw [q]
theorem tbl_init {P : PL} {mm x hh : Nat} {f : Nat → Int} (hp : pOK P) (hh4 : hh ≤ 40) (hf : ∀ j, j < 984 → f j = if j % 41 = 0 then 0 else -4) : tblOK P mm x hh f 0 := fun k h a b => by
  have hc := pCells_le hp
  rw [hf (k * 41 + h) (by omega), fwZ]
  by_cases q : h = 0
  · rw [if_pos q, if_pos (by omega)]
  · rw [if_neg q, if_neg (by omega)]
theorem nI_inc (n k : Nat) : nI n + Int32.ofInt (k : Int) = nI (n + k) := by
  rw [← nI_add, jI_nat k]
  rfl
