/-! the two searches for a round: by codes, and by ways, one within the other -/
theorem foldN_congr {σ : Type} {f g : Nat → σ → σ} {s : σ} : ∀ n, (∀ j t, j < n → f j t = g j t) → foldN f n s = foldN g n s
  | 0, _ => rfl
  | n + 1, h => by rw [foldN, foldN, foldN_congr n (fun j t hj => h j t (by omega)), h n _ (by omega)]
theorem tryW_fold {P : PL} {mm g fr : Nat} {S : ST} {rec : RO → ST → RO} {R : RO} : ∀ i, tryW P mm g fr S rec R i = foldN (fun i R => if wayZ P fr i = -1 then R else rec (va_up R.1 g (wayZ P fr i).toNat, R.2) (strS P S mm (wayZ P fr i).toNat)) i R
  | 0 => rfl
  | i + 1 => by rw [tryW, foldN, tryW_fold i]
def tryC (P : PL) (mm : Nat) : Nat → Nat → RO → ST → RO
  | 0, _, R, S => noteS R (nSum S.1 24)
  | d + 1, g, R, S => foldN (fun c R => if optF P (S.2.2.1 mm) (pCells P) 0 c = -4 then R else tryC P mm d (g + 1) (va_up R.1 g (optF P (S.2.2.1 mm) (pCells P) 0 c).toNat, R.2) (strS P S mm (optF P (S.2.2.1 mm) (pCells P) 0 c).toNat)) 5 R
theorem tryC_eq {P : PL} {mm : Nat} (hp : pOK P) : ∀ (d g : Nat) (R : RO) (S : ST), S.2.2.1 mm < pCells P → tryS P mm d g R S = tryC P mm d g R S
  | 0, _, _, _, _ => rfl
  | d + 1, g, R, S, h => by
    rw [tryS, tryC, tryW_fold, ← fold_option hp h (fun z R => tryS P mm d (g + 1) (va_up R.1 g z.toNat, R.2) (strS P S mm z.toNat)) R]
    refine foldN_congr 5 (fun c R hc => ?_)
    by_cases q : optF P (S.2.2.1 mm) (pCells P) 0 c = -4
    · rw [if_pos q, if_pos q]
    · rw [if_neg q, if_neg q]
      refine tryC_eq hp d (g + 1) _ _ ?_
      rw [strS_pl, upEq]
      have := opt_rng (P := P) (hr := S.2.2.1 mm) (pCells P) 0 c
      omega
theorem dig_code {n q code : Nat} (hq : q < n) : code % 5 ^ (n - q) / 5 ^ (n - (q + 1)) = code / 5 ^ (n - (q + 1)) % 5 := by
  have : 5 ^ (n - q) = 5 ^ (n - (q + 1)) * 5 := by rw [← Nat.pow_succ, show (n - (q + 1)).succ = n - q by omega]
  rw [this, Nat.mod_mul_right_div_self]
theorem hrQ_pre {P : PL} {pl g n code : Nat} (hg : g ≤ n) : ∀ q, q ≤ g → hrQ P pl n code q = hrQ P pl g (code / 5 ^ (n - g)) q
  | 0, _ => rfl
  | q + 1, hq => by
    have h1 := hrQ_pre (P := P) (pl := pl) (code := code) hg q (by omega)
    rw [hrQ, hrQ, h1, dig_code (by omega), dig_code (by omega), Nat.div_div_eq_div_mul, ← Nat.pow_add, show n - g + (g - (q + 1)) = n - (q + 1) by omega]
abbrev rlQ (n : Nat) (R : RO) (B : Int × (Nat → Int)) : Prop := R.2.2 = B.1 ∧ ∀ j, j < n → ((R.2.1 j : Nat) : Int) = B.2 j
theorem bst_or {P : PL} {S : ST} {mm n : Nat} (hpl : S.2.2.1 mm < pCells P) (c : Nat) : (bstQ P S mm n c).1 = -4 ∨ 0 ≤ (bstQ P S mm n c).1 := by
  cases c with
  | zero => exact Or.inl rfl
  | succ c => exact Or.inr (bst_pos hpl c)
theorem bst_skip {P : PL} {S : ST} {mm n a : Nat} : ∀ k, (∀ j, j < k → ¬ okQ P (S.2.2.1 mm) n (a + j)) → bstQ P S mm n (a + k) = bstQ P S mm n a
  | 0, _ => rfl
  | k + 1, h => by
    show bstQ P S mm n ((a + k) + 1) = _
    rw [bstQ, if_neg (fun q => h k (by omega) q.1), bst_skip k (fun j hj => h j (by omega))]
theorem try_code {P : PL} {S : ST} {mm n : Nat} (hpl : S.2.2.1 mm < pCells P) : ∀ (d g pre : Nat) (R : RO), g + d = n → (∀ j, j < g → 0 ≤ rowQ P (S.2.2.1 mm) g pre j) → (∀ j, j < g → ((R.1 j : Nat) : Int) = rowQ P (S.2.2.1 mm) g pre j) → rlQ n R (bstQ P S mm n (pre * 5 ^ d)) →
    rlQ n (tryC P mm d g R (stS P S mm (rowQ P (S.2.2.1 mm) g pre) g)) (bstQ P S mm n (pre * 5 ^ d + 5 ^ d)) ∧ ∀ j, j < g → (tryC P mm d g R (stS P S mm (rowQ P (S.2.2.1 mm) g pre) g)).1 j = R.1 j
  | 0, g, pre, R, hg, hok, hR, hB => by
    obtain rfl : g = n := by omega
    rw [Nat.pow_zero, Nat.mul_one] at hB ⊢
    have hor := bst_or (n := g) hpl pre
    rw [tryC, bstQ]
    unfold noteS
    have hs : nSum (stS P S mm (rowQ P (S.2.2.1 mm) g pre) g).1 24 = sumQ P S mm g pre := rfl
    rw [hs]
    by_cases q : R.2.2 = -4 ∨ ((sumQ P S mm g pre : Nat) : Int) < R.2.2
    · rw [if_pos q, if_pos ⟨hok, by have := hB.1; omega⟩]
      exact ⟨⟨rfl, hR⟩, fun _ _ => rfl⟩
    · rw [if_neg q, if_neg (fun h => q (by have := hB.1; omega))]
      exact ⟨hB, fun _ _ => rfl⟩
  | d + 1, g, pre, R, hg, hok, hR, hB => by
    have hpow : 5 ^ (d + 1) = 5 * 5 ^ d := by rw [Nat.pow_succ, Nat.mul_comm]
    have hq0 : (stS P S mm (rowQ P (S.2.2.1 mm) g pre) g).2.2.1 mm = (hrQ P (S.2.2.1 mm) g pre g).toNat := stS_pl g
    have hrg := hrQ_rng (n := g) (code := pre) hpl g
    rw [tryC, hq0]
    have key : ∀ c, c ≤ 5 → rlQ n (foldN (fun c R => if optF P (hrQ P (S.2.2.1 mm) g pre g).toNat (pCells P) 0 c = -4 then R else tryC P mm d (g + 1) (va_up R.1 g (optF P (hrQ P (S.2.2.1 mm) g pre g).toNat (pCells P) 0 c).toNat, R.2) (strS P (stS P S mm (rowQ P (S.2.2.1 mm) g pre) g) mm (optF P (hrQ P (S.2.2.1 mm) g pre g).toNat (pCells P) 0 c).toNat)) c R) (bstQ P S mm n (pre * 5 ^ (d + 1) + c * 5 ^ d)) ∧ ∀ j, j < g → (foldN (fun c R => if optF P (hrQ P (S.2.2.1 mm) g pre g).toNat (pCells P) 0 c = -4 then R else tryC P mm d (g + 1) (va_up R.1 g (optF P (hrQ P (S.2.2.1 mm) g pre g).toNat (pCells P) 0 c).toNat, R.2) (strS P (stS P S mm (rowQ P (S.2.2.1 mm) g pre) g) mm (optF P (hrQ P (S.2.2.1 mm) g pre g).toNat (pCells P) 0 c).toNat)) c R).1 j = R.1 j := by
      intro c
      induction c with
      | zero =>
        intro _
        rw [Nat.zero_mul, Nat.add_zero]
        exact ⟨hB, fun _ _ => rfl⟩
      | succ c ih =>
        intro hc
        obtain ⟨i1, i2⟩ := ih (by omega)
        rw [foldN]
        generalize hT : foldN (fun c R => if optF P (hrQ P (S.2.2.1 mm) g pre g).toNat (pCells P) 0 c = -4 then R else tryC P mm d (g + 1) (va_up R.1 g (optF P (hrQ P (S.2.2.1 mm) g pre g).toNat (pCells P) 0 c).toNat, R.2) (strS P (stS P S mm (rowQ P (S.2.2.1 mm) g pre) g) mm (optF P (hrQ P (S.2.2.1 mm) g pre g).toNat (pCells P) 0 c).toNat)) c R = T at *
        have e1 : (5 * pre + c) / 5 ^ (g + 1 - g) = pre := by rw [show g + 1 - g = 1 by omega, Nat.pow_one]; omega
        have ha : ∀ q, q ≤ g → hrQ P (S.2.2.1 mm) (g + 1) (5 * pre + c) q = hrQ P (S.2.2.1 mm) g pre q := fun q hq => by rw [hrQ_pre (show g ≤ g + 1 by omega) q hq, e1]
        have hb : hrQ P (S.2.2.1 mm) (g + 1) (5 * pre + c) (g + 1) = optF P (hrQ P (S.2.2.1 mm) g pre g).toNat (pCells P) 0 c := by
          rw [hrQ, ha g (Nat.le_refl g), dig_code (by omega), show g + 1 - (g + 1) = 0 by omega, Nat.pow_zero, Nat.div_one, show (5 * pre + c) % 5 = c by omega]
        have e2 : pre * 5 ^ (d + 1) + c * 5 ^ d = (5 * pre + c) * 5 ^ d := by rw [hpow, Nat.add_mul, Nat.mul_comm 5 pre, Nat.mul_assoc]
        have e3 : pre * 5 ^ (d + 1) + (c + 1) * 5 ^ d = (5 * pre + c) * 5 ^ d + 5 ^ d := by rw [Nat.succ_mul, ← Nat.add_assoc, e2]
        rw [e2] at i1
        rw [e3]
        by_cases q : optF P (hrQ P (S.2.2.1 mm) g pre g).toNat (pCells P) 0 c = -4
        · rw [if_pos q]
          refine ⟨?_, i2⟩
          rw [bst_skip (5 ^ d) (fun j hj hk => ?_)]
          · exact i1
          · have h9 := hk g (by omega)
            have h8 : 0 ≤ hrQ P (S.2.2.1 mm) n ((5 * pre + c) * 5 ^ d + j) (g + 1) := h9
            rw [hrQ_pre (show g + 1 ≤ n by omega) (g + 1) (Nat.le_refl _), show n - (g + 1) = d by omega, Nat.mul_comm (5 * pre + c), Nat.mul_add_div (Nat.pow_pos (by omega)), Nat.div_eq_of_lt hj, show 5 * pre + c + 0 = 5 * pre + c from rfl, hb, q] at h8
            omega
        · rw [if_neg q]
          have hx := opt_rng (P := P) (hr := (hrQ P (S.2.2.1 mm) g pre g).toNat) (pCells P) 0 c
          have hst : strS P (stS P S mm (rowQ P (S.2.2.1 mm) g pre) g) mm (optF P (hrQ P (S.2.2.1 mm) g pre g).toNat (pCells P) 0 c).toNat = stS P S mm (rowQ P (S.2.2.1 mm) (g + 1) (5 * pre + c)) (g + 1) := by
            rw [stS, stS_congr g (fun j hj => show rowQ P (S.2.2.1 mm) (g + 1) (5 * pre + c) j = rowQ P (S.2.2.1 mm) g pre j from ha (j + 1) (by omega))]
            show _ = strS P _ mm (hrQ P (S.2.2.1 mm) (g + 1) (5 * pre + c) (g + 1)).toNat
            rw [hb]
          rw [hst]
          obtain ⟨k1, k2⟩ := try_code hpl d (g + 1) (5 * pre + c) (va_up T.1 g (optF P (hrQ P (S.2.2.1 mm) g pre g).toNat (pCells P) 0 c).toNat, T.2) (by omega)
            (fun j hj => by
              show 0 ≤ hrQ P (S.2.2.1 mm) (g + 1) (5 * pre + c) (j + 1)
              by_cases e : j = g
              · subst e; rw [hb]; omega
              · rw [ha (j + 1) (by omega)]; exact hok j (by omega))
            (fun j hj => by
              show ((va_up T.1 g _ j : Nat) : Int) = hrQ P (S.2.2.1 mm) (g + 1) (5 * pre + c) (j + 1)
              by_cases e : j = g
              · subst e; rw [va_up_self, hb]; omega
              · rw [va_up_ne _ _ e, ha (j + 1) (by omega), i2 j (by omega)]; exact hR j (by omega))
            i1
          refine ⟨k1, fun j hj => ?_⟩
          rw [k2 j (by omega)]
          show va_up T.1 g _ j = R.1 j
          rw [va_up_ne _ _ (by omega), i2 j hj]
    obtain ⟨k1, k2⟩ := key 5 (Nat.le_refl 5)
    rw [← hpow] at k1
    exact ⟨k1, k2⟩
theorem round_code {P : PL} {S : ST} {mm n : Nat} (hp : pOK P) (hpl : S.2.2.1 mm < pCells P) : rlQ n (tryS P mm n 0 ((fun _ => 0), (fun _ => 0), -4) S) (bstQ P S mm n (5 ^ n)) := by
  rw [tryC_eq hp n 0 _ S hpl]
  have h := (try_code (n := n) hpl n 0 0 ((fun _ => 0), (fun _ => 0), -4) (by omega) (fun j hj => absurd hj (Nat.not_lt_zero j)) (fun j hj => absurd hj (Nat.not_lt_zero j)) (by rw [Nat.zero_mul]; exact ⟨rfl, fun _ _ => rfl⟩)).1
  rw [Nat.zero_mul, Nat.zero_add] at h
  exact h
theorem round_z {P : PL} {S : ST} {z1 z2 z3 : Int} (hp : pOK P) (hpl : ∀ k, S.2.2.1 k < pCells P) : (if okX P.2.2.2.2.2.2 z1 ∧ (1 ≤ z2 ∧ z2 ≤ 5) ∧ (-1 ≤ z3 ∧ z3 < 5) then (if (S.2.1 z1.toNat : Int) < z2 then -2 else if z3 < 0 then (bstQ P S z1.toNat z2.toNat (5 ^ z2.toNat)).1 else if z3 < z2 then (bstQ P S z1.toNat z2.toNat (5 ^ z2.toNat)).2 z3.toNat else -4) else -1) = zRound P S z1 z2 z3 := by
  have h := round_code (n := z2.toNat) hp (hpl z1.toNat)
  unfold zRound
  by_cases q : okX P.2.2.2.2.2.2 z1 ∧ (1 ≤ z2 ∧ z2 ≤ 5) ∧ (-1 ≤ z3 ∧ z3 < 5)
  · rw [if_pos q, if_pos q]
    by_cases q2 : (S.2.1 z1.toNat : Int) < z2
    · rw [if_pos q2, if_pos q2]
    · rw [if_neg q2, if_neg q2]
      by_cases q3 : z3 < 0
      · rw [if_pos q3, if_neg (by omega), if_pos (by omega), h.1]
      · rw [if_neg q3]
        by_cases q4 : z3 < z2
        · rw [if_pos q4, if_neg (by omega), if_neg (by omega), h.2 z3.toNat (by omega)]
        · rw [if_neg q4, if_pos (by omega)]
  · rw [if_neg q, if_neg q]
