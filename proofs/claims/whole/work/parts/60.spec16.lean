section ROWI
variable {T : LT} {O : PL} {k n n1 n2 n3 n4 : Nat} {nt ns nc nd ni nw nr nk na : Nat → Nat} {z : Int}
theorem row_18 (ho : oOK O) (h : ¬ (0 < O.2.2.2.1 ∧ pCells O = 4 * O.2.2.2.1)) : pCells O ≤ 18 ∧ O.2.2.2.2.1 < 4 := by
  obtain ⟨⟨b1, b2, b3, b4, b5, b6, b7⟩, c1, c2⟩ := ho
  unfold pCells at h ⊢
  generalize O.2.2.2.2.1 = r at *
  generalize O.2.2.2.1 = w at *
  rcases (show r = 0 ∨ r = 1 ∨ r = 2 ∨ r = 3 ∨ r = 4 by omega) with rfl | rfl | rfl | rfl | rfl <;> omega
theorem row_4 (h : 0 < O.2.2.2.1 ∧ pCells O = 4 * O.2.2.2.1) : O.2.2.2.2.1 = 4 := Nat.eq_of_mul_eq_mul_right h.1 h.2
theorem row_w {nt G : Nat → Nat} {st v : Nat} (hn : n < 6) (hs : st + n ≤ 23) (hv : v = G n) : va_up (rowFill nt st G (min n 6)) (min 23 (st + n)) v = rowFill nt st G (min (n + 1) 6) := by
  rw [show min n 6 = n by omega, show min (n + 1) 6 = n + 1 by omega, show min 23 (st + n) = st + n by omega, hv]
  rfl
theorem row_bad (hd : ∀ j, j < n → isF T (k + j)) (hn : n ≤ 7) (hx : n = 7 ∨ ¬ isF T (k + n)) (hb : n = 7 ∨ ¬ rowOK O n) : rowR T O k = none := by
  unfold rowR
  by_cases q : n = 7
  · subst q
    have e : runN T k 6 = 6 := runN_is (fun j hj => hd j (by omega)) (fun h => absurd h (by omega)) (by omega)
    rw [e, if_neg (fun h => h.2 (hd 6 (by omega)))]
  · have e : runN T k 6 = n := runN_is hd (fun _ => hx.resolve_left q) (by omega)
    rw [e, if_neg (fun h => hb.resolve_left q h.1)]
theorem row_no4 (h : O.2.2.2.2.1 = 4) : rowR T O k = none := by
  unfold rowR
  rw [if_neg]
  rintro ⟨⟨-, -, q, -⟩, -⟩
  omega
theorem itm_r (h : z = 114) (hr : rowOK O n) (e : n = runN T k 6) (hf : ¬ isF T (k + n)) : itmR T O z k = some (pRow O (fun j => tAt T (k + j) - 48) n, k + n) := by
  subst e
  unfold itmR rowR
  rw [if_pos h, if_pos ⟨hr, hf⟩]
theorem itm_rn (h : z = 114) (hr : rowR T O k = none) : itmR T O z k = none := by unfold itmR; rw [if_pos h, hr]
theorem itm_c {a b c d k1 : Nat} (h : z = 99) (hr : casR T O k = some ((a, b, c, d), k1)) : itmR T O z k = some (pCas O (vec4 a b c d), k1) := by unfold itmR; rw [if_neg (by omega), if_pos h, hr]
theorem itm_cn (h : z = 99) (hr : casR T O k = none) : itmR T O z k = none := by unfold itmR; rw [if_neg (by omega), if_pos h, hr]
theorem itm_m {a b c d k1 : Nat} (h : z = 109) (hr : maiR T O k = some ((a, b, c, d), k1)) : itmR T O z k = some (pMai O (vec4 a b c d), k1) := by unfold itmR; rw [if_neg (by omega), if_neg (by omega), if_pos h, hr]
theorem itm_mn (h : z = 109) (hr : maiR T O k = none) : itmR T O z k = none := by unfold itmR; rw [if_neg (by omega), if_neg (by omega), if_pos h, hr]
theorem itm_o (h1 : z ≠ 114) (h2 : z ≠ 99) (h3 : z ≠ 109) : itmR T O z k = none := by unfold itmR; rw [if_neg h1, if_neg h2, if_neg h3]
theorem cas_lt {a b c d k1 : Nat} (h : casR T O k = some ((a, b, c, d), k1)) : a < 100 ∧ b < 100 ∧ c < 100 ∧ d < 100 ∧ k1 ≤ k + 11 ∧ k ≤ k1 := by
  obtain ⟨-, k1, k2, k3, e0, e1, e2, e3⟩ := casR_inv h
  have r0 := numR_some e0
  have r1 := more_b e1
  have r2 := more_b e2
  have r3 := more_b e3
  omega
theorem mai_lt {a b c d k1 : Nat} (h : maiR T O k = some ((a, b, c, d), k1)) : a < 100 ∧ b < 100 ∧ c < 100 ∧ d < 100 ∧ k1 ≤ k + 11 ∧ k ≤ k1 := by
  obtain ⟨-, k1, k2, k3, e0, e1, e2, e3⟩ := maiR_inv h
  have r0 := numR_some e0
  have r1 := more_b e1
  have r2 := more_b e2
  have r3 := more_b e3
  omega
theorem nB_row {g : Nat → Nat} (h : nB nt ns nc nd ni nw nr nk na) (hg : ∀ j, g j < 100) : nB g ns nc nd ni nw nr nk na := ⟨hg, h.2⟩
theorem fill_b {G : Nat → Nat} {st : Nat} (h : ∀ j, nt j < 100) (hG : ∀ j, G j < 100) (w j : Nat) : rowFill nt st G w j < 100 := by
  rw [rowFill_at]
  split
  · exact hG _
  · exact h _
theorem nB_cas {a b c d : Nat} (h : nB nt ns nc nd ni nw nr nk na) (hv : a < 100 ∧ b < 100 ∧ c < 100 ∧ d < 100) : nB nt (va_up ns n a) (va_up nc n b) (va_up nd n c) (va_up ni n d) nw nr nk na := ⟨h.1, va_up_b h.2.1 hv.1, va_up_b h.2.2.1 hv.2.1, va_up_b h.2.2.2.1 hv.2.2.1, va_up_b h.2.2.2.2.1 hv.2.2.2, h.2.2.2.2.2⟩
theorem nB_mai {a b c d : Nat} (h : nB nt ns nc nd ni nw nr nk na) (hv : a < 100 ∧ b < 100 ∧ c < 100 ∧ d < 100) : nB nt ns nc nd ni (va_up nw n a) (va_up nr n b) (va_up nk n c) (va_up na n d) := ⟨h.1, h.2.1, h.2.2.1, h.2.2.2.1, h.2.2.2.2.1, va_up_b h.2.2.2.2.2.1 hv.1, va_up_b h.2.2.2.2.2.2.1 hv.2.1, va_up_b h.2.2.2.2.2.2.2.1 hv.2.2.1, va_up_b h.2.2.2.2.2.2.2.2 hv.2.2.2⟩
theorem tAt_G (h : ltOK T) (j : Nat) : tAt T j - 48 < 100 := by have := tAt_lt h j; omega
/-- a text read on by one item -/
theorem rd_yes {m : Nat} {O1 : PL} {P0 : Option Nat × PL} {k1 : Nat} (hr : P0 = readS T (m + 1) k O) (hk : k < T.2) (ho : oOK O) (hi : itmR T O (nxZ T k) (k + 1) = some (O1, k1)) (e : tAt T k1 = 59) : P0 = readS T m (k1 + 1) O1 ∧ oOK O1 := by
  have hz : nxZ T k = (tAt T k : Nat) := by rcases nxZ_t T k with h | h
                                            · exact h.1
                                            · unfold nxZ at h ⊢; unfold tAt; rw [if_pos hk, if_pos hk]
  rw [hz] at hi
  obtain ⟨h1, h2⟩ := itm_yes ho hi e
  exact ⟨by rw [hr, read_yes hk h1], h2⟩
theorem rd_no {m : Nat} {P0 : Option Nat × PL} (hr : P0 = readS T (m + 1) k O) (hk : k < T.2) (hi : ∀ O1 k1, itmR T O (nxZ T k) (k + 1) = some (O1, k1) → tAt T k1 ≠ 59) : P0.1 = some k := by
  have hz : nxZ T k = (tAt T k : Nat) := by rcases nxZ_t T k with h | h
                                            · exact h.1
                                            · unfold nxZ at h ⊢; unfold tAt; rw [if_pos hk, if_pos hk]
  rw [hz] at hi
  rw [hr, read_no hk (itm_no hi)]
def clN (f : Nat → Nat) (n : Nat) : Nat → Nat := fun j => if j < n then 0 else f j
theorem clN_0 (f : Nat → Nat) : f = clN f 0 := by
  funext j
  unfold clN
  rw [if_neg (by omega)]
theorem clN_s {f g : Nat → Nat} (h : g = clN f n) : va_up g n 0 = clN f (n + 1) := by
  subst h
  funext j
  unfold va_up clN
  by_cases q : j = n
  · rw [if_pos q, if_pos (by omega)]
  · rw [if_neg q]
    by_cases q2 : j < n
    · rw [if_pos q2, if_pos (by omega)]
    · rw [if_neg q2, if_neg (by omega)]
theorem oOK_Z (h : pOK O) : oOK (pZ O) := ⟨pZ_ok h, fun _ => rfl, fun q => absurd q (Nat.lt_irrefl 0)⟩
theorem rN_Z : rN (pZ O) 0 0 0 0 (clN nt 24) ns nc nd ni nw nr nk na := by
  refine ⟨(Nat.zero_mul 0).symm, rfl, rfl, rfl, fun k hk => ?_, fun k hk => absurd hk (Nat.not_lt_zero k), fun k hk => absurd hk (Nat.not_lt_zero k)⟩
  unfold clN
  rw [if_pos hk]
  rfl
theorem nB_Z (h : nB nt ns nc nd ni nw nr nk na) : nB (clN nt 24) ns nc nd ni nw nr nk na := ⟨fun j => by unfold clN; split; omega; exact h.1 j, h.2⟩
end ROWI
theorem va_up_lt0 {Pr : Nat → Prop} {n : Nat} (h : ∀ j, j < n → Pr j) (hv : Pr n) (j : Nat) (hj : j < n + 1) : Pr j := by
  by_cases e : j = n
  · rw [e]; exact hv
  · exact h j (by omega)
