/-! chairs as the reference counts them: row by row, subsets of a row -/
def frN (sl : Nat → Nat) (ln h : Nat) : Nat → Nat | 0 => 0 | j + 1 => if sl (ln + j) ≤ h then frN sl ln h j ||| 2 ^ j else frN sl ln h j
theorem frN_lt {sl : Nat → Nat} {ln h : Nat} : ∀ r, frN sl ln h r < 2 ^ r
  | 0 => by simp [frN]
  | r + 1 => by
    have h1 := frN_lt (sl := sl) (ln := ln) (h := h) r
    have h2 : 2 ^ (r + 1) = 2 * 2 ^ r := by rw [Nat.pow_succ, Nat.mul_comm]
    rw [frN]
    split
    · exact Nat.or_lt_two_pow (by omega) (by omega)
    · omega
theorem frN_64 {sl : Nat → Nat} {ln h r : Nat} (hr : r ≤ 6) : frN sl ln h r < 64 := Nat.lt_of_lt_of_le (frN_lt r) (Nat.pow_le_pow_right (n := 2) (by omega) hr)
theorem frN_y {sl : Nat → Nat} {ln h r a : Nat} (ha : a = frN sl ln h r) (hc : sl (ln + r) ≤ h) : a ||| 2 ^ r = frN sl ln h (r + 1) := by rw [frN, if_pos hc, ha]
theorem frN_n {sl : Nat → Nat} {ln h r a : Nat} (ha : a = frN sl ln h r) (hc : ¬ sl (ln + r) ≤ h) : a ||| 0 = frN sl ln h (r + 1) := by rw [frN, if_neg hc, ha, Nat.or_zero]
def chT (M : Nat → Int) (fr s : Nat) : Nat → Int | 0 => -99 | t + 1 => if canF s fr ∧ s &&& t = 0 then max (chT M fr s t) (M t + (popN s 6 : Nat)) else chT M fr s t
def chN (P : PL) (sl : Nat → Nat) (h : Nat) : Nat → Nat → Int | 0 => fun l => if l = 0 then 0 else -99 | r + 1 => fun l => chT (chN P sl h r) (frN sl (r * P.2.2.2.1) h P.2.2.2.1) l 64
theorem chT_rng {M : Nat → Int} {b : Int} (hb : 0 ≤ b) (h : ∀ l, l < 64 → -99 ≤ M l ∧ M l ≤ b) (fr s : Nat) : ∀ t, t ≤ 64 → -99 ≤ chT M fr s t ∧ chT M fr s t ≤ b + 6
  | 0, _ => by rw [chT]; omega
  | t + 1, ht => by
    have h1 := chT_rng hb h fr s t (by omega)
    have h2 := h t (by omega)
    have h3 := popN_le s 6
    rw [chT]
    split <;> omega
theorem chN_rng {P : PL} {sl : Nat → Nat} {h : Nat} : ∀ r l, -99 ≤ chN P sl h r l ∧ chN P sl h r l ≤ r * 6
  | 0, l => by
    rw [chN]
    show -99 ≤ (if l = 0 then (0 : Int) else -99) ∧ (if l = 0 then (0 : Int) else -99) ≤ ((0 : Nat) : Int) * 6
    split <;> omega
  | r + 1, l => by
    have h1 := chT_rng (M := chN P sl h r) (b := r * 6) (by omega) (fun l _ => chN_rng r l) (frN sl (r * P.2.2.2.1) h P.2.2.2.1) l 64 (Nat.le_refl _)
    rw [chN]
    show -99 ≤ chT _ _ _ _ ∧ chT _ _ _ _ ≤ ((r + 1 : Nat) : Int) * 6
    omega
theorem chT_congr {f g : Nat → Int} {fr s : Nat} : ∀ n, (∀ l, l < n → f l = g l) → chT f fr s n = chT g fr s n
  | 0, _ => rfl
  | n + 1, h => by rw [chT, chT, chT_congr n (fun l hl => h l (by omega)), h n (by omega)]
theorem ch_next {P : PL} {sl : Nat → Nat} {h r : Nat} {M u : Nat → Int} (hM : ∀ l, l < 64 → M l = chN P sl h r l) (hu : ∀ j, j < 64 → u j = chT M (frN sl (r * P.2.2.2.1) h P.2.2.2.1) j 64) : ∀ l, l < 64 → u l = chN P sl h (r + 1) l := fun l hl => by
  rw [hu l hl, chN]
  exact chT_congr 64 hM
theorem xor_free' : ∀ fl, fl < 64 → ∀ fr, fr < 64 → (nI fl &&& (nI fr ^^^ jI (-1))) = nI (if fl &&& fr = fl then 0 else 1) ∨ ((nI fl &&& (nI fr ^^^ jI (-1))).toInt ≠ 0 ∧ fl &&& fr ≠ fl) := by decide +kernel
theorem xor_free1 {fl fr : Nat} (h1 : fl < 64) (h2 : fr < 64) : (nI fl &&& (nI fr ^^^ jI (-1))).toInt = 0 ↔ fl &&& fr = fl := by
  rcases xor_free' fl h1 fr h2 with h | ⟨h, q⟩
  · rw [h]
    by_cases e : fl &&& fr = fl
    · rw [if_pos e]; exact ⟨fun _ => e, fun _ => rfl⟩
    · rw [if_neg e]; exact ⟨fun q => absurd q (by decide), fun q => absurd q e⟩
  · exact ⟨fun e => absurd e h, fun e => absurd e q⟩
theorem chT_y {M : Nat → Int} {fr s t : Nat} {a : Int} (ha : a = chT M fr s t) (hc : canF s fr ∧ s &&& t = 0) : max a (M t + (popN s 6 : Nat)) = chT M fr s (t + 1) := by rw [chT, if_pos hc, ha]
theorem chT_n {M : Nat → Int} {fr s t : Nat} {a : Int} (ha : a = chT M fr s t) (hc : ¬ (canF s fr ∧ s &&& t = 0)) : a = chT M fr s (t + 1) := by rw [chT, if_neg hc, ha]
theorem row_lt {r R w : Nat} (hw : 1 ≤ w) : r * w < R * w ↔ r < R := Nat.mul_lt_mul_right (by omega)
theorem maxT_rng {bf : Nat → Int} (h : ∀ l, l < 64 → -99 ≤ bf l ∧ bf l ≤ 200) : ∀ n, n ≤ 64 → 0 ≤ maxTo bf n ∧ maxTo bf n ≤ 200
  | 0, _ => by rw [maxTo]; omega
  | n + 1, hn => by
    have h1 := maxT_rng h n (by omega)
    have h2 := h n (by omega)
    rw [maxTo]
    omega
