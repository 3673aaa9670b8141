/-! the reference: what comes, what is best, evenings -/
def zUndo (n : Nat) : Int := if n = 0 then -2 else ((n - 1 : Nat) : Int)
def zKeep (n : Nat) : Int := if 2 ≤ n then -3 else ((n + 1 : Nat) : Int)
theorem tRel.mono {P : PL} {sl f : Nat → Nat} {T : ST} {n : Nat} (h : tRel P sl f T n) : tRel P sl f T (n + 1) := ⟨h.1, h.2.1, fun j => Nat.lt_of_lt_of_le (h.2.2 j) (by omega)⟩
theorem best_m4 {P : PL} {S : ST} {n : Nat} : ∀ c, (bestN P S n c).1 = -4 → (bestN P S n c).2 = -4
  | 0, _ => rfl
  | c + 1, h => by
    rw [bestN] at h ⊢
    split
    · next q => rw [if_pos q] at h; exact best_m4 c h
    · next q =>
      rw [if_neg q] at h
      split
      · next q2 =>
        rw [if_pos q2] at h
        have h : (c : Int) = -4 := h
        omega
      · next q2 => rw [if_neg q2] at h; exact best_m4 c h
theorem parS_ok {P : PL} {S : ST} {k : Nat} (h : stOK P S) (hk : k < 6) : stOK P (parS S k) := ⟨h.1, h.2.1, h.2.2.1, or_64 h.2.2.2.1 hk, h.2.2.2.2⟩
theorem tRel_at {P : PL} {sl f : Nat → Nat} {T : ST} {n k : Nat} (h : tRel P sl f T n) (hk : k < 24) : f (352 + k) = T.1 k := h.1.1.1 k hk
theorem hol_z {P : PL} {S : ST} {z : Int} {n : Nat} (h : 12 ≤ sAt (yearsS P S n) z) (hn : n ≤ 20) (hh : holN P S z 21 0 = holN P S z (21 - n) n) : holN P S z 21 0 = (n : Int) := by
  rw [hh, show 21 - n = (20 - n) + 1 by omega, holN, if_pos h]
theorem hol_s {P : PL} {S : ST} {z : Int} {n : Nat} (h : ¬ 12 ≤ sAt (yearsS P S n) z) (hn : n ≤ 20) (hh : holN P S z 21 0 = holN P S z (21 - n) n) : holN P S z 21 0 = holN P S z (21 - (n + 1)) (n + 1) := by
  rw [hh, show 21 - n = (21 - (n + 1)) + 1 by omega, holN, if_neg h]
theorem tEnd.tr {sl f g : Nat → Nat} (h : tEnd sl f) (h2 : tEnd f g) : tEnd sl g := ⟨fun j hj => by rw [h2.1 j hj, h.1 j hj], h2.2⟩
theorem tEnd.sB {sl f : Nat → Nat} (h : tEnd sl f) (hs : sB sl) : sB f := ⟨h.2, fun j hj => by rw [h.1 j hj]; exact hs.2 j hj⟩
theorem tEnd.rF {P : PL} {S : ST} {sl f : Nat → Nat} (h : tEnd sl f) (h3 : P.2.2.2.2.2.2 ≤ 3) (hs : rF P sl 0 S) : rF P f 0 S := rF_lo h3 hs (fun j hj => h.1 _ (by omega))
