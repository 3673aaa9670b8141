/-! the reference: what was on his mind -/
def rBeg1 (to f : Nat → Nat) (b : Nat) : Nat → Nat → Nat | 0 => f | n + 1 => va_up (rBeg1 to f b n) (b + n) (to n)
def rBeg2 (ma : Nat) (ms f : Nat → Nat) (b : Nat) : Nat → Nat → Nat | 0 => f | n + 1 => va_up (rBeg2 ma ms f b n) (b + 24 + n) (if n < ma then ms n else 0)
def rBeg (ma : Nat) (to ms : Nat → Nat) (b : Nat) (f : Nat → Nat) : Nat → Nat := va_up (va_up (rBeg2 ma ms (rBeg1 to f b 24) b 3) (b + 30) 0) (b + 31) 0
theorem rBeg1_at {to f : Nat → Nat} {b j : Nat} : ∀ n, rBeg1 to f b n j = if b ≤ j ∧ j < b + n then to (j - b) else f j
  | 0 => by rw [if_neg (by omega)]; rfl
  | n + 1 => by
    rw [rBeg1]
    by_cases q : j = b + n
    · subst q
      rw [upEq, if_pos (by omega), show b + n - b = n by omega]
    · rw [upNe q, rBeg1_at n]
      by_cases q2 : b ≤ j ∧ j < b + n
      · rw [if_pos q2, if_pos (by omega)]
      · rw [if_neg q2, if_neg (by omega)]
theorem rBeg2_at {ma : Nat} {ms f : Nat → Nat} {b j : Nat} : ∀ n, rBeg2 ma ms f b n j = if b + 24 ≤ j ∧ j < b + 24 + n then (if j - (b + 24) < ma then ms (j - (b + 24)) else 0) else f j
  | 0 => by rw [if_neg (by omega)]; rfl
  | n + 1 => by
    rw [rBeg2]
    by_cases q : j = b + 24 + n
    · subst q
      rw [upEq, if_pos (show b + 24 ≤ b + 24 + n ∧ b + 24 + n < b + 24 + (n + 1) by omega), show b + 24 + n - (b + 24) = n by omega]
    · rw [upNe q, rBeg2_at n]
      by_cases q2 : b + 24 ≤ j ∧ j < b + 24 + n
      · rw [if_pos q2, if_pos (show b + 24 ≤ j ∧ j < b + 24 + (n + 1) by omega)]
      · rw [if_neg q2, if_neg (show ¬ (b + 24 ≤ j ∧ j < b + 24 + (n + 1)) by omega)]
section BEG
variable {P : PL} {S T : ST} {G : SG} {f g sl so cl de si ms wa ir to sc sh : Nat → Nat} {b k x n ac st : Nat}
theorem giveLe_at {h : Nat → Nat} : ∀ n, giveLe P h n k = if k < n then P.2.2.1 (k * 4 + 2) else h k
  | 0 => by rw [if_neg (by omega)]; rfl
  | n + 1 => by
    rw [giveLe]
    by_cases q : k = n
    · subst q
      rw [upEq, if_pos (by omega)]
    · rw [upNe q, giveLe_at n]
      by_cases q2 : k < n
      · rw [if_pos q2, if_pos (show k < n + 1 by omega)]
      · rw [if_neg q2, if_neg (show ¬ k < n + 1 by omega)]
theorem beg_rel (hm : rM P wa ir ms) (ht : ∀ k, k < 24 → to k = P.1 k) : rS (rBeg P.2.2.2.2.2.2 to ms b f) b (layS P) := by
  unfold rBeg
  refine ⟨fun k hk => ?_, fun k hk => ?_, ?_⟩
  · rw [upNe (by omega), upNe (by omega), rBeg2_at, if_neg (by omega), rBeg1_at, if_pos (by omega), show b + k - b = k by omega, ht k hk]
    exact (layHi_at P 24 k hk).symm
  · rw [upNe (by omega), upNe (by omega), rBeg2_at, if_pos (by omega), show b + 24 + k - (b + 24) = k by omega]
    show _ = giveLe P (fun _ => 0) P.2.2.2.2.2.2 k
    rw [giveLe_at]
    by_cases q : k < P.2.2.2.2.2.2
    · rw [if_pos q, if_pos q, (hm k q).2.2]
    · rw [if_neg q, if_neg q]
  · rw [upEq]
    rfl
theorem beg_out {ma j : Nat} (hj : j < b ∨ b + 32 ≤ j ∨ (b + 27 ≤ j ∧ j < b + 30)) : rBeg ma to ms b f j = f j := by
  unfold rBeg
  rw [upNe (by omega), upNe (by omega), rBeg2_at, if_neg (by omega), rBeg1_at, if_neg (by omega)]
theorem beg_b {ma B : Nat} (h : ∀ j, f j < B) (ht : ∀ j, to j < B) (hm : ∀ j, ms j < B) (h0 : 0 < B) (j : Nat) : rBeg ma to ms b f j < B := by
  unfold rBeg
  refine va_up_b (va_up_b (fun j => ?_) h0) h0 j
  rw [rBeg2_at]
  split
  · split
    · exact hm _
    · exact h0
  · rw [rBeg1_at]
    split
    · exact ht _
    · exact h j
/-- the slots of a trial without the maids' places -/
def soRel (f0 f : Nat → Nat) (T : ST) : Prop := rS f 352 T ∧ ∀ j, (j < 352 ∨ 384 ≤ j ∨ (379 ≤ j ∧ j ≤ 382)) → f j = f0 j
theorem so_b {f0 : Nat → Nat} (h : soRel f0 f T) (hs : stOK P T) (hy : T.2.2.2.2 < 2000) (h0 : ∀ j, f0 j < 90000) (j : Nat) : f j < 90000 := by
  by_cases q : j < 352 ∨ 384 ≤ j ∨ (379 ≤ j ∧ j ≤ 382)
  · rw [h.2 j q]; exact h0 j
  · by_cases q1 : j < 376
    · have := h.1.1 (j - 352) (by omega)
      rw [show 352 + (j - 352) = j by omega] at this
      have := hs.1 (j - 352)
      omega
    · by_cases q2 : j < 379
      · have := h.1.2.1 (j - 376) (by omega)
        rw [show 352 + 24 + (j - 376) = j by omega] at this
        have := hs.2.1 (j - 376)
        omega
      · have := h.1.2.2
        rw [show j = 352 + 31 by omega]
        omega
theorem so_end {f0 : Nat → Nat} (h : soRel f0 f T) (hs : stOK P T) (hy : T.2.2.2.2 < 2000) (h0 : ∀ j, f0 j < 90000) (h1 : ∀ j, (j < 352 ∨ 384 ≤ j) → f0 j = sl j) : tEnd sl f :=
  ⟨fun j hj => by rw [h.2 j (by omega), h1 j hj], so_b h hs hy h0⟩
theorem so_year {f0 : Nat → Nat} (hw : pWF P) (hc : rC P so cl de si) (hm : rM P wa ir ms) (h : soRel f0 f T) (hs : sHi T) (hst : ∀ k, k < P.2.2.2.2.2.1 → (st / 2 ^ k % 2 = 1 ↔ ¬ sPard T k)) : soRel f0 (rGo P so cl de si ms 352 st f) (yearS P T) := by
  have hcl : ∀ j, j < P.2.2.2.2.2.1 → cl j < pCells P := fun j hj => by rw [(hc j hj).2.1]; exact hw.2.2.1 j hj
  refine ⟨go_rel hw hc hm h.1 hs hst, fun j hj => ?_⟩
  rw [go_out hw hcl (by omega)]
  exact h.2 j hj
theorem so_init (hm : rM P wa ir ms) (ht : ∀ k, k < 24 → to k = P.1 k) : soRel (rBeg P.2.2.2.2.2.2 to ms 352 f) (rBeg P.2.2.2.2.2.2 to ms 352 f) (subS P st P.2.2.2.2.2.1) := ⟨beg_rel hm ht, fun _ _ => rfl⟩
theorem notIn_bit : ∀ k, k < 6 → ∀ st, st < 64 → (st / 2 ^ k % 2 = 1 ↔ ¬ notIn st 6 / 2 ^ k % 2 = 1) := by decide +kernel
theorem notIn_bits : ∀ n, n < 7 → ∀ k, k < n → ∀ st, st < 64 → (st / 2 ^ k % 2 = 1 ↔ ¬ notIn st n / 2 ^ k % 2 = 1) := by decide +kernel
theorem sub_ok (hp : plOK P) (hst : st < 64) : stOK P (subS P st P.2.2.2.2.2.1) := by
  have h6 : P.2.2.2.2.2.1 ≤ 6 := hp.1.1.2.2.2.2.2.1
  refine ⟨subS_hi hp.1.1 _ _, fun k => ?_, fun k => ?_, notIn_64 st h6, by show 0 < 100000; omega⟩
  · show giveLe P (fun _ => 0) P.2.2.2.2.2.2 k < 40
    rw [giveLe_at]
    split
    · have := hp.2 k (by assumption)
      omega
    · omega
  · have hc := hp.1.2.1
    show layPl P P.2.2.2.2.2.2 k < pCells P
    have : ∀ n, n ≤ P.2.2.2.2.2.2 → layPl P n k < pCells P := by
      intro n
      induction n with
      | zero => intro _; exact hc
      | succ n ih =>
        intro hn
        rw [layPl]
        by_cases q : k = n
        · subst q
          rw [upEq]
          exact hp.1.2.2.2 k (by omega)
        · rw [upNe q]
          exact ih (by omega)
    exact this _ (Nat.le_refl _)
abbrev agrN (f sc sh : Nat → Nat) (j : Nat) : Prop := ∀ i, i < j → f (352 + sc i) = sh i
theorem agrN_y {j : Nat} (h : agrN f sc sh j) (h2 : f (352 + sc j) = sh j) : agrN f sc sh (j + 1) := fun i hi => by
  by_cases q : i = j
  · subst q; exact h2
  · exact h i (by omega)
theorem agrN_n1 {j : Nat} (h : ¬ agrN f sc sh j) : ¬ agrN f sc sh (j + 1) := fun q => h (fun i hi => q i (by omega))
theorem agrN_n2 {j : Nat} (h2 : f (352 + sc j) ≠ sh j) : ¬ agrN f sc sh (j + 1) := fun q => h2 (q j (by omega))
theorem agrN_rel {j : Nat} (h : rS f 352 T) (hc : ∀ i, i < j → sc i < 24) : agrN f sc sh j ↔ agr (sc, sh, j) T := by
  constructor
  · intro q i hi
    show sAt T ((sc i : Nat) : Int) = sh i
    rw [sAt_n (hc i hi), ← h.1 _ (hc i hi)]
    exact q i hi
  · intro q i hi
    have := q i hi
    have this : sAt T ((sc i : Nat) : Int) = sh i := this
    rw [sAt_n (hc i hi), ← h.1 _ (hc i hi)] at this
    exact this
theorem mR_0 {x : Nat × Int} : x = (x.1 + 0, if x.2 = -4 then (-4 : Int) else x.2) := by
  obtain ⟨a, b⟩ := x
  dsimp only
  split
  · next h => rw [h]; rfl
  · rfl
theorem mR_y {x : Nat × Int} {a : Nat} {b : Int} {k : Nat} (h : x = ((mindN P G n (k + 1)).1 + a, if (mindN P G n (k + 1)).2 = -4 then b else (mindN P G n (k + 1)).2)) (q : seenB P G k n) : x = ((mindN P G n k).1 + (a + 1), if (mindN P G n k).2 = -4 then (k : Int) else (mindN P G n k).2) := by
  rw [mindN, if_pos q] at h
  dsimp only at h
  rw [h]
  refine Prod.ext (by show _ + 1 + a = _ + (a + 1); omega) ?_
  show (if (if (mindN P G n k).2 = -4 then (k : Int) else (mindN P G n k).2) = -4 then b else (if (mindN P G n k).2 = -4 then (k : Int) else (mindN P G n k).2)) = _
  by_cases q2 : (mindN P G n k).2 = -4
  · rw [if_pos q2, if_neg (by omega)]
  · rw [if_neg q2, if_neg q2]
theorem mR_n {x : Nat × Int} {a : Nat} {b : Int} {k : Nat} (h : x = ((mindN P G n (k + 1)).1 + a, if (mindN P G n (k + 1)).2 = -4 then b else (mindN P G n (k + 1)).2)) (q : ¬ seenB P G k n) : x = ((mindN P G n k).1 + a, if (mindN P G n k).2 = -4 then b else (mindN P G n k).2) := by
  rw [mindN, if_neg q] at h
  exact h
theorem dR_y {x : Nat × Int} {a : Nat} {b : Int} {i k : Nat} (h : x = ((deepN P G i n (k + 1)).1 + a, if (deepN P G i n (k + 1)).2 = -4 then b else (deepN P G i n (k + 1)).2)) (q : seenB (dpP P i (k + 1)) G (2 ^ P.2.2.2.2.2.1 - 1) n) : x = ((deepN P G i n k).1 + (a + 1), if (deepN P G i n k).2 = -4 then ((k + 1 : Nat) : Int) else (deepN P G i n k).2) := by
  rw [deepN, if_pos q] at h
  dsimp only at h
  rw [h]
  refine Prod.ext (by show _ + 1 + a = _ + (a + 1); omega) ?_
  show (if (if (deepN P G i n k).2 = -4 then ((k + 1 : Nat) : Int) else (deepN P G i n k).2) = -4 then b else (if (deepN P G i n k).2 = -4 then ((k + 1 : Nat) : Int) else (deepN P G i n k).2)) = _
  by_cases q2 : (deepN P G i n k).2 = -4
  · rw [if_pos q2, if_neg (by omega)]
  · rw [if_neg q2, if_neg q2]
theorem dR_n {x : Nat × Int} {a : Nat} {b : Int} {i k : Nat} (h : x = ((deepN P G i n (k + 1)).1 + a, if (deepN P G i n (k + 1)).2 = -4 then b else (deepN P G i n (k + 1)).2)) (q : ¬ seenB (dpP P i (k + 1)) G (2 ^ P.2.2.2.2.2.1 - 1) n) : x = ((deepN P G i n k).1 + a, if (deepN P G i n k).2 = -4 then b else (deepN P G i n k).2) := by
  rw [deepN, if_neg q] at h
  exact h
theorem dp_rC {i v : Nat} (hc : rC P so cl de si) : rC (dpP P i v) so cl (va_up de i v) si := by
  intro k hk
  obtain ⟨c1, c2, c3, c4⟩ := hc k hk
  refine ⟨?_, ?_, ?_, ?_⟩
  · show _ = va_up P.2.1 (i * 4 + 2) v (k * 4 + 0)
    rw [upNe (by omega)]; exact c1
  · show _ = va_up P.2.1 (i * 4 + 2) v (k * 4 + 1)
    rw [upNe (by omega)]; exact c2
  · show _ = va_up P.2.1 (i * 4 + 2) v (k * 4 + 2)
    by_cases q : k = i
    · subst q
      rw [upEq, upEq]
    · rw [upNe q, upNe (by omega)]; exact c3
  · show _ = va_up P.2.1 (i * 4 + 2) v (k * 4 + 3)
    rw [upNe (by omega)]; exact c4
theorem dp_ok {i v : Nat} (h : plOK P) (hv : v < 100) : plOK (dpP P i v) := ⟨dp_wf h.1 hv, h.2⟩
end BEG
theorem ite_iff {p q : Prop} [Decidable p] [Decidable q] (h : p ↔ q) : (if p then 1 else 0 : Nat) = if q then 1 else 0 := by
  by_cases hp : p
  · rw [if_pos hp, if_pos (h.mp hp)]
  · rw [if_neg hp, if_neg (fun hq => hp (h.mpr hq))]
theorem va_up_same {f g : Nat → Nat} {i v : Nat} (h : ∀ j, j ≠ i → g j = f j) : va_up g i v = va_up f i v := by
  funext j
  by_cases q : j = i
  · subst q; rw [upEq, upEq]
  · rw [upNe q, upNe q, h j q]
theorem va_up_back {f g : Nat → Nat} {i : Nat} (h : ∀ j, j ≠ i → g j = f j) : va_up g i (f i) = f := by
  funext j
  by_cases q : j = i
  · subst q; rw [upEq]
  · rw [upNe q, h j q]
