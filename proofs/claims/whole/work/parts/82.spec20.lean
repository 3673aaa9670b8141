/-! what can be undone, what is kept: the piles and the reference's slots -/
def piOK (n : Nat) (pi : Nat → Nat) : Prop := (∀ j, j < n → pi j < n) ∧ ∀ i j, i < n → j < n → pi i = pi j → i = j
def sOK (P : PL) (S : ST) : Prop := stOK P S ∧ stX P S ∧ S.2.2.2.2 ≤ 999 ∧ ∀ k, S.2.1 k ≤ 9
def pRel (P : PL) (sl : Nat → Nat) (n b : Nat) (Y : PI) : Prop := Y.2.1 ≤ n ∧ piOK n Y.1 ∧ ∀ j, j < Y.2.1 → rF P sl (32 * (b + j)) (Y.2.2 (Y.1 j)) ∧ sOK P (Y.2.2 (Y.1 j))
section PILE
variable {P : PL} {S : ST} {sl f : Nat → Nat} {n b ac : Nat} {Y : PI} {pi : Nat → Nat}
theorem pi0 (n : Nat) : piOK n (fun j => j) := ⟨fun _ h => h, fun _ _ _ _ h => h⟩
theorem rot_ok (h : piOK n pi) (hn : 1 ≤ n) : piOK n (rotP n pi) := by
  refine ⟨rotP_lt h.1 hn, fun i j hi hj e => ?_⟩
  unfold rotP at e
  by_cases qi : i = n - 1
  · rw [if_pos qi] at e
    by_cases qj : j = n - 1
    · omega
    · rw [if_neg qj, if_pos (by omega)] at e
      have := h.2 0 (j + 1) (by omega) (by omega) e
      omega
  · rw [if_neg qi, if_pos (by omega)] at e
    by_cases qj : j = n - 1
    · rw [if_pos qj] at e
      have := h.2 (i + 1) 0 (by omega) (by omega) e
      omega
    · rw [if_neg qj, if_pos (by omega)] at e
      have := h.2 (i + 1) (j + 1) (by omega) (by omega) e
      omega
theorem pRel_congr (hm : P.2.2.2.2.2.2 ≤ 3) (h : pRel P sl n b Y) (he : ∀ j, 32 * b ≤ j → j < 32 * (b + n) → f j = sl j) : pRel P f n b Y := by
  refine ⟨h.1, h.2.1, fun j hj => ⟨rF_lo hm (h.2.2 j hj).1 (fun i hi => ?_), (h.2.2 j hj).2⟩⟩
  have := h.1
  exact he _ (by omega) (by omega)
theorem pRel_0 : pRel P sl n b (Y.1, 0, Y.2.2) ↔ piOK n Y.1 := ⟨fun h => h.2.1, fun h => ⟨Nat.zero_le _, h, fun j hj => absurd hj (Nat.not_lt_zero j)⟩⟩
/-- one more on a pile that isn't full: its slots copied behind the last -/
theorem push_rel (hm : P.2.2.2.2.2.2 ≤ 3) (h : pRel P sl n b Y) (hb : 1 ≤ b) (hs : Y.2.1 < n) (hS : rF P sl 0 S) (hO : sOK P S) : pRel P (cpN sl 0 (32 * (b + Y.2.1)) 32) n b (psh n Y S) := by
  have e : psh n Y S = (Y.1, Y.2.1 + 1, va_up Y.2.2 (Y.1 Y.2.1) S) := by unfold psh; rw [if_neg (by omega)]
  rw [e]
  refine ⟨hs, h.2.1, fun j hj => ?_⟩
  have hj : j < Y.2.1 + 1 := hj
  show rF P _ _ (va_up Y.2.2 (Y.1 Y.2.1) S (Y.1 j)) ∧ sOK P (va_up Y.2.2 (Y.1 Y.2.1) S (Y.1 j))
  by_cases q : j = Y.2.1
  · subst q
    rw [va_up_self]
    refine ⟨rF_lo hm hS (fun i hi => ?_), hO⟩
    unfold cpN
    rw [if_pos (by omega)]
    congr 1
    omega
  · rw [va_up_ne _ _ (fun e => q (h.2.1.2 _ _ (by omega) (by omega) e))]
    refine ⟨rF_lo hm (h.2.2 j (by omega)).1 (fun i hi => ?_), (h.2.2 j (by omega)).2⟩
    unfold cpN
    rw [if_neg (by omega)]
theorem push_full (hm : P.2.2.2.2.2.2 ≤ 3) (h : pRel P sl 8 1 Y) (hs : Y.2.1 = 8) (hS : rF P sl 0 S) (hO : sOK P S) : pRel P (cpN (shN sl 224) 0 256 32) 8 1 (psh 8 Y S) := by
  have e : psh 8 Y S = (rotP 8 Y.1, 8, va_up Y.2.2 (Y.1 0) S) := by unfold psh; rw [if_pos (by omega)]
  rw [e]
  refine ⟨Nat.le_refl _, rot_ok h.2.1 (by omega), fun j hj => ?_⟩
  have hj : j < 8 := hj
  show rF P _ _ (va_up Y.2.2 (Y.1 0) S (rotP 8 Y.1 j)) ∧ sOK P (va_up Y.2.2 (Y.1 0) S (rotP 8 Y.1 j))
  by_cases q : j = 7
  · subst q
    rw [show rotP 8 Y.1 7 = Y.1 0 from rotP_l (n := 8), va_up_self]
    refine ⟨rF_lo hm hS (fun i hi => ?_), hO⟩
    unfold cpN
    rw [if_pos (by omega)]
    unfold shN
    rw [if_neg (by omega), show 0 + (32 * (1 + 7) + i - 256) = 0 + i by omega]
  · have e2 : rotP 8 Y.1 j = Y.1 (j + 1) := by unfold rotP; rw [if_neg (by omega), if_pos (by omega)]
    rw [e2, va_up_ne _ _ (fun e => by have := h.2.1.2 (j + 1) 0 (by omega) (by omega) e; omega)]
    refine ⟨rF_lo hm (h.2.2 (j + 1) (by omega)).1 (fun i hi => ?_), (h.2.2 (j + 1) (by omega)).2⟩
    unfold cpN
    rw [if_neg (by omega)]
    unfold shN
    rw [if_pos (by omega)]
    congr 1
    omega
theorem known_rel (hm : P.2.2.2.2.2.2 ≤ 3) (h : pRel P sl 8 1 Y) (he : ac = Y.2.1) (hS : rF P sl 0 S) (hO : sOK P S) : pRel P (kn sl ac) 8 1 (psh 8 Y S) ∧ (if ac = 8 then 8 else ac + 1) = (psh 8 Y S).2.1 := by
  have h8 := h.1
  unfold kn
  by_cases q : ac = 8
  · rw [if_pos q, if_pos q]
    exact ⟨push_full hm h (by omega) hS hO, by unfold psh; rw [if_pos (by omega)]⟩
  · rw [if_neg q, if_neg q]
    refine ⟨?_, by unfold psh; rw [if_neg (by omega)]; show ac + 1 = Y.2.1 + 1; omega⟩
    have := push_rel hm h (by omega) (by omega) hS hO
    rwa [show 32 * (1 + Y.2.1) = (ac + 1) * 32 by omega] at this
/-- the last of a pile taken off it -/
theorem pop_rel (hm : P.2.2.2.2.2.2 ≤ 3) (h : pRel P sl n b Y) (hb : 1 ≤ b) (hs : 0 < Y.2.1) : rF P (cpN sl (32 * (b + (Y.2.1 - 1))) 0 32) 0 (Y.2.2 (Y.1 (Y.2.1 - 1))) ∧ sOK P (Y.2.2 (Y.1 (Y.2.1 - 1))) ∧ pRel P (cpN sl (32 * (b + (Y.2.1 - 1))) 0 32) n b (Y.1, Y.2.1 - 1, Y.2.2) := by
  obtain ⟨h1, h2⟩ := h.2.2 (Y.2.1 - 1) (by omega)
  have hc : pRel P sl n b (Y.1, Y.2.1 - 1, Y.2.2) := ⟨by show Y.2.1 - 1 ≤ n; have := h.1; omega, h.2.1, fun j hj => h.2.2 j (by have hj : j < Y.2.1 - 1 := hj; omega)⟩
  refine ⟨rF_lo hm h1 (fun i hi => ?_), h2, pRel_congr hm hc (fun j hj _ => ?_)⟩
  · unfold cpN
    rw [if_pos (by omega)]
    congr 1
    omega
  · unfold cpN
    rw [if_neg (by omega)]
end PILE
