/-! what the public methods answer -/
abbrev rwW (a0 a1 a2 a3 a4 a5 a6 a7 a8 a9 a10 a11 a12 : Nat) : va_W := [(a0, .inr (9, [.ref a1, .ref a2, .ref a3, .ref a4, .ref a5, .ref a6, .ref a7, .ref a8, .ref a9, .ref a10, .ref a11, .ref a12]))]
abbrev okX (n : Nat) (z : Int) : Prop := 0 ≤ z ∧ z < (n : Int)
def zHigh (P : PL) (S : ST) (z : Int) : Int := if okX (pCells P) z then (sAt S z : Int) else -1
def wouldR (P : PL) (S : ST) (k : Nat) : Nat := if sPard S k then 0 else min (raiseOwn P k (sAt S ((P.2.1 (k * 4 + 1) : Nat) : Int))) (40 - sAt S ((P.2.1 (k * 4 + 1) : Nat) : Int))
def zMatter (P : PL) (S : ST) (z v : Int) : Int := if okX P.2.2.2.2.2.1 z then (if 0 ≤ v ∧ v ≤ 3 then (P.2.1 (z.toNat * 4 + v.toNat) : Nat) else if v = 4 then (if sPard S z.toNat then 1 else 0) else if v = 5 then (wouldR P S z.toNat : Nat) else -1) else -1
def zMaid (P : PL) (S : ST) (z v : Int) : Int := if okX P.2.2.2.2.2.2 z then (if 0 ≤ v ∧ v ≤ 1 then (P.2.2.1 (z.toNat * 4 + v.toNat) : Nat) else if v = 2 then (S.2.1 z.toNat : Nat) else if v = 3 then (S.2.2.1 z.toNat : Nat) else if v = 4 then (min (takeS P z.toNat (sAt S ((S.2.2.1 z.toNat : Nat) : Int))) (sAt S ((S.2.2.1 z.toNat : Nat) : Int)) : Nat) else -1) else -1
def zBehind (P : PL) (S : ST) (n z : Int) : Int := if (0 ≤ n ∧ n ≤ 20) ∧ okX (pCells P) z then (sAt (yearsS P S n.toNat) z : Nat) else -1
def holN (P : PL) (S : ST) (z : Int) : Nat → Nat → Int | 0, _ => -4 | f + 1, n => if 12 ≤ sAt (yearsS P S n) z then (n : Int) else holN P S z f (n + 1)
def zHollowed (P : PL) (S : ST) (z : Int) : Int := if okX (pCells P) z then holN P S z 21 0 else -1
def zSmooth (P : PL) (S : ST) (a z k : Int) : Int := if okX P.2.2.2.2.2.2 a ∧ okX (pCells P) z ∧ -1 ≤ k then
    (if fwZ P a.toNat z.toNat (S.2.1 a.toNat) (S.2.2.1 a.toNat) (sAt S z) = -4 ∨ k = -1 then fwZ P a.toNat z.toNat (S.2.1 a.toNat) (S.2.2.1 a.toNat) (sAt S z)
     else if k < fwZ P a.toNat z.toNat (S.2.1 a.toNat) (S.2.2.1 a.toNat) (sAt S z) then ((walkS (fwZ P a.toNat z.toNat (S.2.1 a.toNat)) P a.toNat z.toNat (fwZ P a.toNat z.toNat (S.2.1 a.toNat) (S.2.2.1 a.toNat) (sAt S z)).toNat (S.2.2.1 a.toNat) (sAt S z) (k.toNat + 1)).1 : Nat) else -4) else -1
def zRound (P : PL) (S : ST) (a n k : Int) : Int := if okX P.2.2.2.2.2.2 a ∧ (1 ≤ n ∧ n ≤ 5) ∧ (-1 ≤ k ∧ k < 5) then
    (if (S.2.1 a.toNat : Int) < n then -2 else if n ≤ k then -4 else
      if k = -1 then (tryS P a.toNat n.toNat 0 ((fun _ => 0), (fun _ => 0), -4) S).2.2 else ((tryS P a.toNat n.toNat 0 ((fun _ => 0), (fun _ => 0), -4) S).2.1 k.toNat : Nat)) else -1
def zChairs (P : PL) (S : ST) (h : Int) : Int := if 0 ≤ h ∧ h ≤ 40 then seatR P S h.toNat else -1
def notIn (st : Nat) : Nat → Nat | 0 => 0 | k + 1 => if st / 2 ^ k % 2 = 0 then notIn st k ||| 2 ^ k else notIn st k
theorem notIn_lt (st : Nat) : ∀ n, notIn st n < 2 ^ n
  | 0 => by simp [notIn]
  | n + 1 => by
    have h1 := notIn_lt st n
    have h2 : 2 ^ (n + 1) = 2 * 2 ^ n := by rw [Nat.pow_succ, Nat.mul_comm]
    rw [notIn]
    split
    · exact Nat.or_lt_two_pow (by omega) (by omega)
    · omega
theorem notIn_64 (st : Nat) {n : Nat} (h : n ≤ 6) : notIn st n < 64 := Nat.lt_of_lt_of_le (notIn_lt st n) (Nat.pow_le_pow_right (n := 2) (by omega) h)
abbrev subS (P : PL) (st k : Nat) : ST := ((layS P).1, (layS P).2.1, (layS P).2.2.1, notIn st k, (layS P).2.2.2.2)
theorem subS_hi {P : PL} (hp : pOK P) (st k : Nat) : sHi (subS P st k) := layS_hi hp
abbrev seenB (P : PL) (G : SG) (st n : Nat) : Prop := agr G (yearsS P (subS P st P.2.2.2.2.2.1) n)
def outN (P : PL) (mm t : Nat) : Nat → Nat → Nat | 0, h => if h = 0 then 1 else 0 | n + 1, h => t * outN P mm t n h + (10 - t) * outN P mm t n (h - takeS P mm h)
def eg : Nat → Nat → Nat → Nat | 0, a, _ => a | f + 1, a, b => if b = 0 then a else eg f b (a % b)
def drawN (z k : Nat) : Nat := ((7919 * z + 6151 * k + 1) * (7919 * z + 6151 * k + 1)) % 65521
theorem drawN_lt (z k : Nat) : drawN z k < 65521 := Nat.mod_lt _ (by omega)
def strIf (P : PL) (S : ST) (k x : Nat) : ST := if canS P S k x then strS P S k x else S
def drawS (P : PL) (S : ST) (d : Nat) : ST :=
  if d % 8 = 7 then (if S.2.2.2.2 < 999 then yearsS P S 1 else S)
  else if d % 8 = 6 then (if 0 < P.2.2.2.2.2.1 then (S.1, S.2.1, S.2.2.1, S.2.2.2.1 ||| 2 ^ (d / 8 % P.2.2.2.2.2.1), S.2.2.2.2) else S)
  else if 0 < P.2.2.2.2.2.2 ∧ 0 < pCells P then strIf P S (d / 8 % P.2.2.2.2.2.2) (d / 64 % pCells P) else S
theorem i2c_n {k : Nat} (h : k < 65536) : ((nI k).toUInt32 % 65536).toInt32 = nI k := by rw [pk_char, pk_tn (by omega), Nat.mod_eq_of_lt h]
def zWrite (T : LT) (z : Int) : Int := if 32 ≤ z ∧ z ≤ 126 then (if 200 ≤ T.2 then -3 else ((T.2 + 1 : Nat) : Int)) else -1
def tWrite (T : LT) (z : Int) : LT := if (32 ≤ z ∧ z ≤ 126) ∧ T.2 < 200 then (va_up T.1 T.2 z.toNat, T.2 + 1) else T
def zSee (P : PL) (G : SG) (a b : Int) : Int := if okX (pCells P) a ∧ 0 ≤ b ∧ b ≤ 40 then (if 8 ≤ G.2.2 then -3 else ((G.2.2 + 1 : Nat) : Int)) else -1
def gSee (P : PL) (G : SG) (a b : Int) : SG := if (okX (pCells P) a ∧ 0 ≤ b ∧ b ≤ 40) ∧ G.2.2 < 8 then (va_up G.1 G.2.2 a.toNat, va_up G.2.1 G.2.2 b.toNat, G.2.2 + 1) else G
theorem wouldR_le (P : PL) (S : ST) (k : Nat) : wouldR P S k ≤ 40 := by
  unfold wouldR
  split <;> omega
theorem lN_rem {a b : Nat} (ha : a < 9223372036854775808) (h0 : 0 < b) (hb : b < 9223372036854775808) : lN a - lN a / lN b * lN b = lN (a % b) := pk_lRem (by omega) h0 (by omega)
def pardN (P : PL) (S : ST) (n c : Nat) : Nat := nSum (yearsS P (S.1, S.2.1, S.2.2.1, S.2.2.2.1 ||| 2 ^ c, S.2.2.2.2) n).1 24
/-- the best case to pardon among the first c: which, and how much stands then -/
def bestN (P : PL) (S : ST) (n : Nat) : Nat → Int × Int
  | 0 => (-4, -4)
  | c + 1 => if sPard S c then bestN P S n c else if (bestN P S n c).1 = -4 ∨ (pardN P S n c : Int) < (bestN P S n c).2 then ((c : Int), (pardN P S n c : Int)) else bestN P S n c
theorem bestN_rng {P : PL} {S : ST} (hs : sHi S) (n : Nat) : ∀ c, -4 ≤ (bestN P S n c).1 ∧ (bestN P S n c).1 ≤ c ∧ -4 ≤ (bestN P S n c).2 ∧ (bestN P S n c).2 ≤ 1000
  | 0 => by
    rw [bestN]
    show -4 ≤ (-4 : Int) ∧ (-4 : Int) ≤ ((0 : Nat) : Int) ∧ -4 ≤ (-4 : Int) ∧ (-4 : Int) ≤ 1000
    omega
  | c + 1 => by
    have h1 := bestN_rng hs n c (P := P)
    have h2 : pardN P S n c ≤ 24 * 40 := nSum_le (yearsS_hi (S := (S.1, S.2.1, S.2.2.1, S.2.2.2.1 ||| 2 ^ c, S.2.2.2.2)) hs n) 24
    rw [bestN]
    split
    · omega
    · split
      · show -4 ≤ (c : Int) ∧ (c : Int) ≤ ((c + 1 : Nat) : Int) ∧ -4 ≤ (pardN P S n c : Int) ∧ (pardN P S n c : Int) ≤ 1000
        omega
      · omega
def zPardons (P : PL) (S : ST) (n v : Int) : Int := if (1 ≤ n ∧ n ≤ 20) ∧ 0 ≤ v ∧ v ≤ 1 then (if v = 0 then (bestN P S n.toNat P.2.2.2.2.2.1).1 else (bestN P S n.toNat P.2.2.2.2.2.1).2) else -1
def eveS (P : PL) (S : ST) (z : Nat) : Nat → ST | 0 => S | k + 1 => drawS P (eveS P S z k) (drawN z k)
def zEvening (P : PL) (S : ST) (z n v : Int) : Int := if (0 ≤ z ∧ z ≤ 9999) ∧ (1 ≤ n ∧ n ≤ 60) ∧ 0 ≤ v ∧ v ≤ 1 then (if v = 0 then (nSum (eveS P S z.toNat n.toNat).1 24 : Nat) else (nCnt (eveS P S z.toNat n.toNat).1 12 24 : Nat)) else -1
theorem or_64 {a k : Nat} (ha : a < 64) (hk : k < 6) : a ||| 2 ^ k < 64 := Nat.or_lt_two_pow (n := 6) ha (Nat.pow_lt_pow_right (a := 2) (by omega) hk)
theorem best_skip {P : PL} {S : ST} {n c : Nat} {b z : Int} (hb : (b, z) = bestN P S n c) (h : sPard S c) : (b, z) = bestN P S n (c + 1) := by rw [bestN, if_pos h, hb]
theorem best_no {P : PL} {S : ST} {n c : Nat} {b z : Int} (hb : (b, z) = bestN P S n c) (h : ¬ sPard S c) (h2 : ¬ (b = -4 ∨ (pardN P S n c : Int) < z)) : (b, z) = bestN P S n (c + 1) := by
  rw [bestN, if_neg h, ← hb, if_neg h2]
theorem best_yes {P : PL} {S : ST} {n c : Nat} {b z : Int} (hb : (b, z) = bestN P S n c) (h : ¬ sPard S c) (h2 : b = -4 ∨ (pardN P S n c : Int) < z) : ((c : Int), (pardN P S n c : Int)) = bestN P S n (c + 1) := by
  rw [bestN, if_neg h, ← hb, if_pos h2]
theorem pardN_le {P : PL} {S : ST} (hs : sHi S) (n c : Nat) : pardN P S n c ≤ 960 := nSum_le (yearsS_hi (S := (S.1, S.2.1, S.2.2.1, S.2.2.2.1 ||| 2 ^ c, S.2.2.2.2)) hs n) 24
def mindN (P : PL) (G : SG) (n : Nat) : Nat → Nat × Int
  | 0 => (0, -4)
  | k + 1 => if seenB P G k n then ((mindN P G n k).1 + 1, if (mindN P G n k).2 = -4 then (k : Int) else (mindN P G n k).2) else mindN P G n k
theorem mindN_rng {P : PL} {G : SG} {n : Nat} : ∀ k, (mindN P G n k).1 ≤ k ∧ -4 ≤ (mindN P G n k).2 ∧ (mindN P G n k).2 ≤ k
  | 0 => ⟨Nat.le_refl 0, Int.le_refl _, by show (-4 : Int) ≤ ((0 : Nat) : Int); omega⟩
  | k + 1 => by
    have h1 := mindN_rng (P := P) (G := G) (n := n) k
    rw [mindN]
    split
    · refine ⟨by show _ + 1 ≤ k + 1; omega, ?_, ?_⟩
      · show -4 ≤ (if (mindN P G n k).2 = -4 then (k : Int) else (mindN P G n k).2)
        split <;> omega
      · show (if (mindN P G n k).2 = -4 then (k : Int) else (mindN P G n k).2) ≤ ((k + 1 : Nat) : Int)
        split <;> omega
    · omega
def zMind (P : PL) (G : SG) (n v : Int) : Int := if (1 ≤ n ∧ n ≤ 20) ∧ 0 ≤ v ∧ v ≤ 1 then (if v = 0 then ((mindN P G n.toNat (2 ^ P.2.2.2.2.2.1)).1 : Int) else (mindN P G n.toNat (2 ^ P.2.2.2.2.2.1)).2) else -1
theorem mind_no {P : PL} {G : SG} {n k a : Nat} {b : Int} (hb : (a, b) = mindN P G n k) (h : ¬ seenB P G k n) : (a, b) = mindN P G n (k + 1) := by rw [mindN, if_neg h, hb]
theorem mind_new {P : PL} {G : SG} {n k a : Nat} {b : Int} (hb : (a, b) = mindN P G n k) (h : seenB P G k n) (h2 : b = -4) : (a + 1, (k : Int)) = mindN P G n (k + 1) := by
  rw [mindN, if_pos h, ← hb]
  show _ = (a + 1, if b = -4 then (k : Int) else b)
  rw [if_pos h2]
theorem mind_old {P : PL} {G : SG} {n k a : Nat} {b : Int} (hb : (a, b) = mindN P G n k) (h : seenB P G k n) (h2 : b ≠ -4) : (a + 1, b) = mindN P G n (k + 1) := by
  rw [mindN, if_pos h, ← hb]
  show _ = (a + 1, if b = -4 then (k : Int) else b)
  rw [if_neg h2]
theorem pow_64 {n : Nat} (h : n ≤ 6) : 2 ^ n ≤ 64 := Nat.pow_le_pow_right (n := 2) (by omega) h
/-- what holds of a standing over a laid plan -/
def stOK (P : PL) (S : ST) : Prop := sHi S ∧ (∀ k, S.2.1 k < 40) ∧ (∀ k, S.2.2.1 k < pCells P) ∧ S.2.2.2.1 < 64 ∧ S.2.2.2.2 < 100000
def plOK (P : PL) : Prop := pWF P ∧ ∀ k, k < P.2.2.2.2.2.2 → P.2.2.1 (k * 4 + 2) ≤ 9
theorem giveLe_lt {P : PL} {f : Nat → Nat} (hf : ∀ k, f k < 40) : ∀ n, (∀ k, k < n → P.2.2.1 (k * 4 + 2) ≤ 9) → ∀ k, giveLe P f n k < 40
  | 0, _, k => hf k
  | n + 1, h, k => by
    rw [giveLe]
    exact va_up_lt (giveLe_lt hf n (fun k hk => h k (by omega))) (by have := h n (by omega); omega) k
theorem yearS_ok {P : PL} {S : ST} (hp : plOK P) (h : stOK P S) (hy : S.2.2.2.2 < 99999) : stOK P (yearS P S) := by
  obtain ⟨h1, h2, h3, h4, h5⟩ := h
  refine ⟨yearS_hi h1, ?_, ?_, ?_, ?_⟩
  · show ∀ k, giveLe P (yrFold P S _).2.1 _ k < 40
    rw [yrFold_2]
    exact giveLe_lt h2 _ hp.2
  · rw [yearS_pl]; exact h3
  · rw [yearS_pa]; exact h4
  · rw [yearS_yr]; omega
theorem strS_ok {P : PL} {S : ST} (h : stOK P S) (k : Nat) {x : Nat} (hx : x < pCells P) : stOK P (strS P S k x) := by
  obtain ⟨h1, h2, h3, h4, h5⟩ := h
  refine ⟨strS_hi h1 k x, ?_, ?_, ?_, ?_⟩
  · rw [strS_le]; exact va_up_lt h2 (by have := h2 k; omega)
  · rw [strS_pl]; exact va_up_lt h3 hx
  · rw [strS_rest]; exact h4
  · rw [strS_rest]; exact h5
theorem drawS_ok {P : PL} {S : ST} (hp : plOK P) (h : stOK P S) (d : Nat) : stOK P (drawS P S d) := by
  unfold drawS
  split
  · split
    · exact yearS_ok (S := S) hp h (by omega)
    · exact h
  · split
    · split
      · next q =>
        obtain ⟨h1, h2, h3, h4, h5⟩ := h
        have h6 := hp.1.1.2.2.2.2.2.1
        have h7 := Nat.mod_lt (d / 8) q
        exact ⟨h1, h2, h3, or_64 h4 (by omega), h5⟩
      · exact h
    · split
      · next q =>
        unfold strIf
        split
        · exact strS_ok h _ (Nat.mod_lt _ q.2)
        · exact h
      · exact h
theorem eveS_ok {P : PL} {S : ST} (hp : plOK P) (h : stOK P S) (z : Nat) : ∀ n, stOK P (eveS P S z n)
  | 0 => h
  | n + 1 => drawS_ok hp (eveS_ok hp h z n) _
