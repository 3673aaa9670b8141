/-! the reference: laying -/
def cpM (f g : Nat → Nat) (n : Nat) : Nat → Nat := fun j => if j < n then g j else f j
theorem cpM_0 (f g : Nat → Nat) : f = cpM f g 0 := by
  funext j
  unfold cpM
  rw [if_neg (by omega)]
theorem cpM_s (f g : Nat → Nat) (n : Nat) : va_up (cpM f g n) n (g n) = cpM f g (n + 1) := by
  funext j
  unfold va_up cpM
  by_cases q : j = n
  · subst q
    rw [if_pos rfl, if_pos (by omega)]
  · rw [if_neg q]
    by_cases q2 : j < n
    · rw [if_pos q2, if_pos (by omega)]
    · rw [if_neg q2, if_neg (by omega)]
theorem cpM_at {f g : Nat → Nat} {n k : Nat} (h : k < n) : cpM f g n k = g k := by unfold cpM; rw [if_pos h]
theorem cpM_b {f g : Nat → Nat} {n b : Nat} (hf : ∀ j, f j < b) (hg : ∀ j, g j < b) (j : Nat) : cpM f g n j < b := by
  unfold cpM
  split
  · exact hg j
  · exact hf j
def atN (f g : Nat → Nat) : Nat → Nat → Nat | 0 => f | n + 1 => va_up (atN f g n) (27 + n) (g n)
theorem atN_at {f g : Nat → Nat} {j : Nat} : ∀ n, atN f g n j = if 27 ≤ j ∧ j < 27 + n then g (j - 27) else f j
  | 0 => by rw [if_neg (by omega)]; rfl
  | n + 1 => by
    rw [atN]
    by_cases q : j = 27 + n
    · subst q
      rw [upEq, if_pos (show 27 ≤ 27 + n ∧ 27 + n < 27 + (n + 1) by omega), show 27 + n - 27 = n by omega]
    · rw [upNe q, atN_at n]
      by_cases q2 : 27 ≤ j ∧ j < 27 + n
      · rw [if_pos q2, if_pos (show 27 ≤ j ∧ j < 27 + (n + 1) by omega)]
      · rw [if_neg q2, if_neg (show ¬ (27 ≤ j ∧ j < 27 + (n + 1)) by omega)]
theorem layPl_at (P : PL) (k : Nat) : ∀ n, layPl P n k = if k < n then P.2.2.1 (k * 4 + 3) else 0
  | 0 => by rw [if_neg (by omega)]; rfl
  | n + 1 => by
    rw [layPl]
    by_cases q : k = n
    · subst q
      rw [upEq, if_pos (show k < k + 1 by omega)]
    · rw [upNe q, layPl_at P k n]
      by_cases q2 : k < n
      · rw [if_pos q2, if_pos (show k < n + 1 by omega)]
      · rw [if_neg q2, if_neg (show ¬ k < n + 1 by omega)]
abbrev setS (n4 : Nat) (nt nk na to ms sl : Nat → Nat) : Nat → Nat := atN (rBeg n4 (cpM to nt 24) (cpM ms nk 3) 0 sl) na 3
section LAY
variable {O : PL} {n1 n2 n3 n4 : Nat} {nt ns nc nd ni nw nr nk na to so cl de si wa ir ms sl : Nat → Nat}
theorem lay_rC (hp : pOK O) (h : rN O n1 n2 n3 n4 nt ns nc nd ni nw nr nk na) : rC O (cpM so ns 6) (cpM cl nc 6) (cpM de nd 6) (cpM si ni 6) := by
  intro k hk
  have h6 : O.2.2.2.2.2.1 ≤ 6 := hp.2.2.2.2.2.1
  rw [cpM_at (by omega), cpM_at (by omega), cpM_at (by omega), cpM_at (by omega)]
  exact h.2.2.2.2.2.1 k hk
theorem lay_rM (hp : pOK O) (h : rN O n1 n2 n3 n4 nt ns nc nd ni nw nr nk na) : rM O (cpM wa nw 3) (cpM ir nr 3) (cpM ms nk 3) := by
  intro k hk
  have h6 : O.2.2.2.2.2.2 ≤ 3 := hp.2.2.2.2.2.2
  have := h.2.2.2.2.2.2 k hk
  rw [cpM_at (by omega), cpM_at (by omega), cpM_at (by omega)]
  exact ⟨this.1, this.2.1, this.2.2.1⟩
theorem lay_to (h : rN O n1 n2 n3 n4 nt ns nc nd ni nw nr nk na) (k : Nat) (hk : k < 24) : cpM to nt 24 k = O.1 k := by
  rw [cpM_at hk]
  exact h.2.2.2.2.1 k hk
theorem lay_rF (hp : pOK O) (h : rN O n1 n2 n3 n4 nt ns nc nd ni nw nr nk na) : rF O (setS n4 nt nk na to ms sl) 0 (layS O) := by
  have h6 : O.2.2.2.2.2.2 ≤ 3 := hp.2.2.2.2.2.2
  have e4 : n4 = O.2.2.2.2.2.2 := h.2.2.2.1
  have hb : rS (rBeg n4 (cpM to nt 24) (cpM ms nk 3) 0 sl) 0 (layS O) := by
    rw [e4]
    exact beg_rel (lay_rM (wa := fun _ => 0) (ir := fun _ => 0) hp h) (lay_to h)
  refine ⟨⟨fun k hk => ?_, fun k hk => ?_, ?_⟩, fun k hk => ?_, ?_⟩
  · unfold setS
    rw [atN_at, if_neg (by omega)]
    exact hb.1 k hk
  · unfold setS
    rw [atN_at, if_neg (by omega)]
    exact hb.2.1 k hk
  · unfold setS
    rw [atN_at, if_neg (by omega)]
    exact hb.2.2
  · unfold setS
    rw [atN_at, if_pos (by omega), show 0 + 27 + k - 27 = k by omega]
    show na k = layPl O O.2.2.2.2.2.2 k
    rw [layPl_at, if_pos hk]
    exact (h.2.2.2.2.2.2 k hk).2.2.2
  · unfold setS
    rw [atN_at, if_neg (by omega)]
    unfold rBeg
    rw [upNe (by omega), upEq]
    rfl
theorem lay_sB (hb : nB nt ns nc nd ni nw nr nk na) (ht : ∀ j, to j < 100) (hm : ∀ j, ms j < 100) (hs : sB sl) : sB (setS n4 nt nk na to ms sl) := by
  have hlo : ∀ j, j < 32 → setS n4 nt nk na to ms sl j < 1100 := by
    intro j hj
    unfold setS
    rw [atN_at]
    split
    · have := hb.2.2.2.2.2.2.2.2 (j - 27); omega
    · unfold rBeg
      by_cases q : j = 0 + 31
      · rw [q, upEq]; omega
      · rw [upNe q]
        by_cases q2 : j = 0 + 30
        · rw [q2, upEq]; omega
        · rw [upNe q2, rBeg2_at]
          split
          · split
            · have := cpM_b (n := 3) hm hb.2.2.2.2.2.2.2.1 (j - (0 + 24)); omega
            · omega
          · rw [rBeg1_at]
            split
            · have := cpM_b (n := 24) ht hb.1 (j - 0); omega
            · exact hs.2 j (by omega)
  have hhi : ∀ j, 32 ≤ j → setS n4 nt nk na to ms sl j = sl j := by
    intro j hj
    unfold setS
    rw [atN_at, if_neg (by omega), beg_out (by omega)]
  refine ⟨fun j => ?_, fun j hj => ?_⟩
  · by_cases q : j < 32
    · have := hlo j q; omega
    · rw [hhi j (by omega)]; exact hs.1 j
  · by_cases q : j < 32
    · exact hlo j q
    · rw [hhi j (by omega)]; exact hs.2 j hj
end LAY
def zLay (T : LT) (O : PL) : Int := if (readS T 200 0 (pZ O)).1 = none ∧ pCells (readS T 200 0 (pZ O)).2 ≠ 0 then (pCells (readS T 200 0 (pZ O)).2 : Int) else -2
