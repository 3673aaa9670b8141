/-! the reference: reading a text -/
def nxZ (T : LT) (k : Nat) : Int := if k < T.2 then ((T.1 k : Nat) : Int) else -1
theorem nxZ_t (T : LT) (k : Nat) : (nxZ T k = (tAt T k : Nat) ∧ k < T.2) ∨ (nxZ T k = -1 ∧ tAt T k = 0) := by
  unfold nxZ tAt
  by_cases q : k < T.2
  · rw [if_pos q, if_pos q]; exact Or.inl ⟨rfl, q⟩
  · rw [if_neg q, if_neg q]; exact Or.inr ⟨rfl, rfl⟩
def numR (T : LT) (k : Nat) (lo hi : Int) : Option (Nat × Nat) := match num1 T k with
  | none => none
  | some q => if ¬ isF T q.2 ∧ lo ≤ (q.1 : Int) ∧ (q.1 : Int) ≤ hi then some q else none
def moreR (T : LT) (k : Nat) (lo hi : Int) : Option (Nat × Nat) := if tAt T k = 44 then numR T (k + 1) lo hi else none
section NUM
variable {T : LT} {k : Nat} {lo hi : Int}
theorem num1_no (h : ¬ isF T k) : num1 T k = none := by unfold num1; rw [if_neg h]
theorem numR_0 (h : ¬ isF T k) : numR T k lo hi = none := by
  unfold numR
  rw [num1_no h]
theorem numR_1 (h : isF T k) (h2 : ¬ isF T (k + 1)) (hr : lo ≤ ((tAt T k - 48 : Nat) : Int) ∧ ((tAt T k - 48 : Nat) : Int) ≤ hi) : numR T k lo hi = some (tAt T k - 48, k + 1) := by
  unfold numR
  rw [num1_one h h2]
  show (if ¬ isF T (k + 1) ∧ lo ≤ ((tAt T k - 48 : Nat) : Int) ∧ ((tAt T k - 48 : Nat) : Int) ≤ hi then some (tAt T k - 48, k + 1) else none) = _
  rw [if_pos ⟨h2, hr⟩]
theorem numR_n1 (h : isF T k) (h2 : ¬ isF T (k + 1)) (hr : ¬ (lo ≤ ((tAt T k - 48 : Nat) : Int) ∧ ((tAt T k - 48 : Nat) : Int) ≤ hi)) : numR T k lo hi = none := by
  unfold numR
  rw [num1_one h h2]
  show (if ¬ isF T (k + 1) ∧ lo ≤ ((tAt T k - 48 : Nat) : Int) ∧ ((tAt T k - 48 : Nat) : Int) ≤ hi then some (tAt T k - 48, k + 1) else none) = _
  rw [if_neg (fun q => hr q.2)]
theorem numR_2 (h : isF T k) (h2 : isF T (k + 1)) (h3 : ¬ isF T (k + 2)) (hr : lo ≤ ((10 * (tAt T k - 48) + (tAt T (k + 1) - 48) : Nat) : Int) ∧ ((10 * (tAt T k - 48) + (tAt T (k + 1) - 48) : Nat) : Int) ≤ hi) : numR T k lo hi = some (10 * (tAt T k - 48) + (tAt T (k + 1) - 48), k + 2) := by
  unfold numR
  rw [num1_two h h2]
  show (if ¬ isF T (k + 2) ∧ lo ≤ ((10 * (tAt T k - 48) + (tAt T (k + 1) - 48) : Nat) : Int) ∧ ((10 * (tAt T k - 48) + (tAt T (k + 1) - 48) : Nat) : Int) ≤ hi then some (10 * (tAt T k - 48) + (tAt T (k + 1) - 48), k + 2) else none) = _
  rw [if_pos ⟨h3, hr⟩]
theorem numR_n2 (h : isF T k) (h2 : isF T (k + 1)) (hr : ¬ (lo ≤ ((10 * (tAt T k - 48) + (tAt T (k + 1) - 48) : Nat) : Int) ∧ ((10 * (tAt T k - 48) + (tAt T (k + 1) - 48) : Nat) : Int) ≤ hi)) : numR T k lo hi = none := by
  unfold numR
  rw [num1_two h h2]
  show (if ¬ isF T (k + 2) ∧ lo ≤ ((10 * (tAt T k - 48) + (tAt T (k + 1) - 48) : Nat) : Int) ∧ ((10 * (tAt T k - 48) + (tAt T (k + 1) - 48) : Nat) : Int) ≤ hi then some (10 * (tAt T k - 48) + (tAt T (k + 1) - 48), k + 2) else none) = _
  rw [if_neg (fun q => hr q.2)]
theorem numR_3 (h : isF T k) (h2 : isF T (k + 1)) (h3 : isF T (k + 2)) : numR T k lo hi = none := by
  unfold numR
  rw [num1_two h h2]
  show (if ¬ isF T (k + 2) ∧ lo ≤ ((10 * (tAt T k - 48) + (tAt T (k + 1) - 48) : Nat) : Int) ∧ ((10 * (tAt T k - 48) + (tAt T (k + 1) - 48) : Nat) : Int) ≤ hi then some (10 * (tAt T k - 48) + (tAt T (k + 1) - 48), k + 2) else none) = _
  rw [if_neg (fun q => q.1 h3)]
theorem numR_some {v k1 : Nat} (h : numR T k lo hi = some (v, k1)) : num1 T k = some (v, k1) ∧ ¬ isF T k1 ∧ lo ≤ (v : Int) ∧ (v : Int) ≤ hi ∧ v < 100 ∧ k1 ≤ k + 2 ∧ k ≤ k1 := by
  unfold numR at h
  rcases hn : num1 T k with _ | q
  · rw [hn] at h; cases h
  · rw [hn] at h
    have h : (if ¬ isF T q.2 ∧ lo ≤ (q.1 : Int) ∧ (q.1 : Int) ≤ hi then some q else none) = some (v, k1) := h
    by_cases c : ¬ isF T q.2 ∧ lo ≤ (q.1 : Int) ∧ (q.1 : Int) ≤ hi
    · rw [if_pos c] at h
      cases h
      refine ⟨rfl, c.1, c.2.1, c.2.2, ?_⟩
      unfold num1 at hn
      by_cases c1 : isF T k
      · rw [if_pos c1] at hn
        by_cases c2 : isF T (k + 1)
        · rw [if_pos c2] at hn
          cases hn
          omega
        · rw [if_neg c2] at hn
          cases hn
          omega
      · rw [if_neg c1] at hn; cases hn
    · rw [if_neg c] at h; cases h
theorem moreR_some {v k1 : Nat} (h : moreR T k lo hi = some (v, k1)) : tAt T k = 44 ∧ numR T (k + 1) lo hi = some (v, k1) := by
  unfold moreR at h
  by_cases c : tAt T k = 44
  · rw [if_pos c] at h; exact ⟨c, h⟩
  · rw [if_neg c] at h; cases h
theorem moreR_yes (h : tAt T k = 44) : moreR T k lo hi = numR T (k + 1) lo hi := by unfold moreR; rw [if_pos h]
theorem moreR_no (h : ¬ tAt T k = 44) : moreR T k lo hi = none := by unfold moreR; rw [if_neg h]
theorem numS_of {v k1 s : Nat} (h : num1 T k = some (v, k1)) (hs : tAt T k1 = s) : numS T k s = some (v, k1 + 1) := numS_yes h hs
theorem numS_inv {v k2 s : Nat} (h : numS T k s = some (v, k2)) : ∃ k1, num1 T k = some (v, k1) ∧ tAt T k1 = s ∧ k2 = k1 + 1 := by
  unfold numS at h
  rcases hn : num1 T k with _ | q
  · rw [hn] at h; cases h
  · rw [hn] at h
    have h : (if tAt T q.2 = s then some (q.1, q.2 + 1) else none) = some (v, k2) := h
    by_cases c : tAt T q.2 = s
    · rw [if_pos c] at h
      cases h
      exact ⟨q.2, rfl, c, rfl⟩
    · rw [if_neg c] at h; cases h
theorem numR_of {v k1 : Nat} (h : num1 T k = some (v, k1)) (hf : ¬ isF T k1) (hr : lo ≤ (v : Int) ∧ (v : Int) ≤ hi) : numR T k lo hi = some (v, k1) := by
  unfold numR
  rw [h]
  show (if ¬ isF T k1 ∧ lo ≤ (v : Int) ∧ (v : Int) ≤ hi then some (v, k1) else none) = _
  rw [if_pos ⟨hf, hr⟩]
theorem nums4_fwd {a b c d k1 k2 k3 k4 : Nat} (h0 : numS T k 44 = some (a, k1)) (h1 : numS T k1 44 = some (b, k2)) (h2 : numS T k2 44 = some (c, k3)) (h3 : numS T k3 59 = some (d, k4)) : nums4 T k = some (vec4 a b c d, k4) := by
  have e1 : numsF T k (fun _ => 0) 1 = some (va_up (fun _ => 0) 0 a, k1) := numsF_yes rfl h0
  have e2 : numsF T k (fun _ => 0) 2 = some (va_up (va_up (fun _ => 0) 0 a) 1 b, k2) := numsF_yes e1 h1
  have e3 : numsF T k (fun _ => 0) 3 = some (va_up (va_up (va_up (fun _ => 0) 0 a) 1 b) 2 c, k3) := numsF_yes e2 h2
  have e4 : numsF T k (fun _ => 0) 4 = some (va_up (va_up (va_up (va_up (fun _ => 0) 0 a) 1 b) 2 c) 3 d, k4) := numsF_yes e3 h3
  have := nums4_some e4
  rw [this]
  rfl
theorem nums4_inv {g : Nat → Nat} {k4 : Nat} (h : nums4 T k = some (g, k4)) : ∃ k1 k2 k3, numS T k 44 = some (g 0, k1) ∧ numS T k1 44 = some (g 1, k2) ∧ numS T k2 44 = some (g 2, k3) ∧ numS T k3 59 = some (g 3, k4) ∧ g = vec4 (g 0) (g 1) (g 2) (g 3) := by
  have inv : ∀ {f : Nat → Nat} {i : Nat} {g : Nat → Nat} {k4 : Nat}, numsF T k f (i + 1) = some (g, k4) → ∃ g1 k1 v, numsF T k f i = some (g1, k1) ∧ numS T k1 (if i = 3 then 59 else 44) = some (v, k4) ∧ g = va_up g1 i v := by
    intro f i g k4 h
    rw [numsF] at h
    rcases hq : numsF T k f i with _ | ⟨g1, k1⟩
    · rw [hq] at h; cases h
    · rw [hq] at h
      have h : (match numS T k1 (if i = 3 then 59 else 44) with | none => none | some r => some (va_up g1 i r.1, r.2)) = some (g, k4) := h
      rcases hr : numS T k1 (if i = 3 then 59 else 44) with _ | ⟨v, k2⟩
      · rw [hr] at h; cases h
      · rw [hr] at h
        cases h
        exact ⟨g1, k1, v, rfl, hr, rfl⟩
  unfold nums4 at h
  rcases hq : numsF T k (fun _ => 0) 4 with _ | ⟨g4, k5⟩
  · rw [hq] at h; cases h
  · rw [hq] at h
    have h : some (vec4 (g4 0) (g4 1) (g4 2) (g4 3), k5) = some (g, k4) := h
    cases h
    obtain ⟨g3, k3, d, h3, s3, rfl⟩ := inv hq
    obtain ⟨g2, k2, c, h2, s2, rfl⟩ := inv h3
    obtain ⟨g1, k1, b, h1, s1, rfl⟩ := inv h2
    obtain ⟨g0, k0, a, h0, s0, rfl⟩ := inv h1
    cases h0
    exact ⟨k1, k2, k3, s0, s1, s2, s3, rfl⟩
end NUM
def casR (T : LT) (O : PL) (k : Nat) : Option ((Nat × Nat × Nat × Nat) × Nat) :=
  if O.2.2.2.2.2.1 = 6 then none else match numR T k 0 3 with
  | none => none
  | some a => match moreR T a.2 0 ((pCells O : Int) - 1) with
    | none => none
    | some b => match moreR T b.2 1 9 with
      | none => none
      | some c => match moreR T c.2 0 19 with
        | none => none
        | some d => some ((a.1, b.1, c.1, d.1), d.2)
def maiR (T : LT) (O : PL) (k : Nat) : Option ((Nat × Nat × Nat × Nat) × Nat) :=
  if O.2.2.2.2.2.2 = 3 then none else match numR T k 0 3 with
  | none => none
  | some a => match moreR T a.2 1 9 with
    | none => none
    | some b => match moreR T b.2 1 9 with
      | none => none
      | some c => match moreR T c.2 0 ((pCells O : Int) - 1) with
        | none => none
        | some d => some ((a.1, b.1, c.1, d.1), d.2)
section ITEM
variable {T : LT} {O : PL} {k : Nat}
theorem casR_6 (h : O.2.2.2.2.2.1 = 6) : casR T O k = none := by unfold casR; rw [if_pos h]
theorem casR_0 (h : ¬ O.2.2.2.2.2.1 = 6) (h0 : numR T k 0 3 = none) : casR T O k = none := by unfold casR; rw [if_neg h, h0]
theorem casR_1 {a k1 : Nat} (h : ¬ O.2.2.2.2.2.1 = 6) (h0 : numR T k 0 3 = some (a, k1)) (h1 : moreR T k1 0 ((pCells O : Int) - 1) = none) : casR T O k = none := by
  unfold casR; rw [if_neg h, h0]; dsimp only; rw [h1]
theorem casR_2 {a b k1 k2 : Nat} (h : ¬ O.2.2.2.2.2.1 = 6) (h0 : numR T k 0 3 = some (a, k1)) (h1 : moreR T k1 0 ((pCells O : Int) - 1) = some (b, k2)) (h2 : moreR T k2 1 9 = none) : casR T O k = none := by
  unfold casR; rw [if_neg h, h0]; dsimp only; rw [h1]; dsimp only; rw [h2]
theorem casR_3 {a b c k1 k2 k3 : Nat} (h : ¬ O.2.2.2.2.2.1 = 6) (h0 : numR T k 0 3 = some (a, k1)) (h1 : moreR T k1 0 ((pCells O : Int) - 1) = some (b, k2)) (h2 : moreR T k2 1 9 = some (c, k3)) (h3 : moreR T k3 0 19 = none) : casR T O k = none := by
  unfold casR; rw [if_neg h, h0]; dsimp only; rw [h1]; dsimp only; rw [h2]; dsimp only; rw [h3]
theorem casR_4 {a b c d k1 k2 k3 k4 : Nat} (h : ¬ O.2.2.2.2.2.1 = 6) (h0 : numR T k 0 3 = some (a, k1)) (h1 : moreR T k1 0 ((pCells O : Int) - 1) = some (b, k2)) (h2 : moreR T k2 1 9 = some (c, k3)) (h3 : moreR T k3 0 19 = some (d, k4)) : casR T O k = some ((a, b, c, d), k4) := by
  unfold casR; rw [if_neg h, h0]; dsimp only; rw [h1]; dsimp only; rw [h2]; dsimp only; rw [h3]
theorem casR_inv {a b c d k4 : Nat} (h : casR T O k = some ((a, b, c, d), k4)) : ¬ O.2.2.2.2.2.1 = 6 ∧ ∃ k1 k2 k3, numR T k 0 3 = some (a, k1) ∧ moreR T k1 0 ((pCells O : Int) - 1) = some (b, k2) ∧ moreR T k2 1 9 = some (c, k3) ∧ moreR T k3 0 19 = some (d, k4) := by
  by_cases q : O.2.2.2.2.2.1 = 6
  · rw [casR_6 q] at h; cases h
  · rcases h0 : numR T k 0 3 with _ | ⟨a', k1⟩
    · rw [casR_0 q h0] at h; cases h
    · rcases h1 : moreR T k1 0 ((pCells O : Int) - 1) with _ | ⟨b', k2⟩
      · rw [casR_1 q h0 h1] at h; cases h
      · rcases h2 : moreR T k2 1 9 with _ | ⟨c', k3⟩
        · rw [casR_2 q h0 h1 h2] at h; cases h
        · rcases h3 : moreR T k3 0 19 with _ | ⟨d', k5⟩
          · rw [casR_3 q h0 h1 h2 h3] at h; cases h
          · rw [casR_4 q h0 h1 h2 h3] at h
            cases h
            exact ⟨q, k1, k2, k3, rfl, h1, h2, h3⟩
theorem maiR_6 (h : O.2.2.2.2.2.2 = 3) : maiR T O k = none := by unfold maiR; rw [if_pos h]
theorem maiR_0 (h : ¬ O.2.2.2.2.2.2 = 3) (h0 : numR T k 0 3 = none) : maiR T O k = none := by unfold maiR; rw [if_neg h, h0]
theorem maiR_1 {a k1 : Nat} (h : ¬ O.2.2.2.2.2.2 = 3) (h0 : numR T k 0 3 = some (a, k1)) (h1 : moreR T k1 1 9 = none) : maiR T O k = none := by
  unfold maiR; rw [if_neg h, h0]; dsimp only; rw [h1]
theorem maiR_2 {a b k1 k2 : Nat} (h : ¬ O.2.2.2.2.2.2 = 3) (h0 : numR T k 0 3 = some (a, k1)) (h1 : moreR T k1 1 9 = some (b, k2)) (h2 : moreR T k2 1 9 = none) : maiR T O k = none := by
  unfold maiR; rw [if_neg h, h0]; dsimp only; rw [h1]; dsimp only; rw [h2]
theorem maiR_3 {a b c k1 k2 k3 : Nat} (h : ¬ O.2.2.2.2.2.2 = 3) (h0 : numR T k 0 3 = some (a, k1)) (h1 : moreR T k1 1 9 = some (b, k2)) (h2 : moreR T k2 1 9 = some (c, k3)) (h3 : moreR T k3 0 ((pCells O : Int) - 1) = none) : maiR T O k = none := by
  unfold maiR; rw [if_neg h, h0]; dsimp only; rw [h1]; dsimp only; rw [h2]; dsimp only; rw [h3]
theorem maiR_4 {a b c d k1 k2 k3 k4 : Nat} (h : ¬ O.2.2.2.2.2.2 = 3) (h0 : numR T k 0 3 = some (a, k1)) (h1 : moreR T k1 1 9 = some (b, k2)) (h2 : moreR T k2 1 9 = some (c, k3)) (h3 : moreR T k3 0 ((pCells O : Int) - 1) = some (d, k4)) : maiR T O k = some ((a, b, c, d), k4) := by
  unfold maiR; rw [if_neg h, h0]; dsimp only; rw [h1]; dsimp only; rw [h2]; dsimp only; rw [h3]
theorem maiR_inv {a b c d k4 : Nat} (h : maiR T O k = some ((a, b, c, d), k4)) : ¬ O.2.2.2.2.2.2 = 3 ∧ ∃ k1 k2 k3, numR T k 0 3 = some (a, k1) ∧ moreR T k1 1 9 = some (b, k2) ∧ moreR T k2 1 9 = some (c, k3) ∧ moreR T k3 0 ((pCells O : Int) - 1) = some (d, k4) := by
  by_cases q : O.2.2.2.2.2.2 = 3
  · rw [maiR_6 q] at h; cases h
  · rcases h0 : numR T k 0 3 with _ | ⟨a', k1⟩
    · rw [maiR_0 q h0] at h; cases h
    · rcases h1 : moreR T k1 1 9 with _ | ⟨b', k2⟩
      · rw [maiR_1 q h0 h1] at h; cases h
      · rcases h2 : moreR T k2 1 9 with _ | ⟨c', k3⟩
        · rw [maiR_2 q h0 h1 h2] at h; cases h
        · rcases h3 : moreR T k3 0 ((pCells O : Int) - 1) with _ | ⟨d', k5⟩
          · rw [maiR_3 q h0 h1 h2 h3] at h; cases h
          · rw [maiR_4 q h0 h1 h2 h3] at h
            cases h
            exact ⟨q, k1, k2, k3, rfl, h1, h2, h3⟩
theorem chain_bwd {a b c d k1 k2 k3 k4 : Nat} {l0 h0 l1 h1 l2 h2 l3 h3 : Int} (e0 : numR T k l0 h0 = some (a, k1)) (e1 : moreR T k1 l1 h1 = some (b, k2)) (e2 : moreR T k2 l2 h2 = some (c, k3)) (e3 : moreR T k3 l3 h3 = some (d, k4)) (e : tAt T k4 = 59) : nums4 T k = some (vec4 a b c d, k4 + 1) := by
  obtain ⟨s1, n1⟩ := moreR_some e1
  obtain ⟨s2, n2⟩ := moreR_some e2
  obtain ⟨s3, n3⟩ := moreR_some e3
  exact nums4_fwd (numS_of (numR_some e0).1 s1) (numS_of (numR_some n1).1 s2) (numS_of (numR_some n2).1 s3) (numS_of (numR_some n3).1 e)
theorem chain_fwd {g : Nat → Nat} {k4 : Nat} {l0 h0 l1 h1 l2 h2 l3 h3 : Int} (h : nums4 T k = some (g, k4)) (r0 : l0 ≤ (g 0 : Int) ∧ (g 0 : Int) ≤ h0) (r1 : l1 ≤ (g 1 : Int) ∧ (g 1 : Int) ≤ h1) (r2 : l2 ≤ (g 2 : Int) ∧ (g 2 : Int) ≤ h2) (r3 : l3 ≤ (g 3 : Int) ∧ (g 3 : Int) ≤ h3) : ∃ k1 k2 k3 k5, numR T k l0 h0 = some (g 0, k1) ∧ moreR T k1 l1 h1 = some (g 1, k2) ∧ moreR T k2 l2 h2 = some (g 2, k3) ∧ moreR T k3 l3 h3 = some (g 3, k5) ∧ tAt T k5 = 59 ∧ k4 = k5 + 1 := by
  obtain ⟨k1, k2, k3, s0, s1, s2, s3, -⟩ := nums4_inv h
  obtain ⟨j1, n0, t0, rfl⟩ := numS_inv s0
  obtain ⟨j2, n1, t1, rfl⟩ := numS_inv s1
  obtain ⟨j3, n2, t2, rfl⟩ := numS_inv s2
  obtain ⟨j4, n3, t3, rfl⟩ := numS_inv s3
  refine ⟨j1, j2, j3, j4, numR_of n0 (by omega) r0, ?_, ?_, ?_, t3, rfl⟩
  · rw [moreR_yes t0]; exact numR_of n1 (by omega) r1
  · rw [moreR_yes t1]; exact numR_of n2 (by omega) r2
  · rw [moreR_yes t2]; exact numR_of n3 (by omega) r3
theorem cas_bwd {a b c d k4 : Nat} (hp : pOK O) (h : casR T O k = some ((a, b, c, d), k4)) (e : tAt T k4 = 59) : nums4 T k = some (vec4 a b c d, k4 + 1) ∧ casOK O (vec4 a b c d) ∧ a < 100 ∧ b < 100 ∧ c < 100 ∧ d < 100 := by
  obtain ⟨q, k1, k2, k3, e0, e1, e2, e3⟩ := casR_inv h
  have h6 : O.2.2.2.2.2.1 ≤ 6 := hp.2.2.2.2.2.1
  have r0 := numR_some e0
  have r1 := numR_some (moreR_some e1).2
  have r2 := numR_some (moreR_some e2).2
  have r3 := numR_some (moreR_some e3).2
  refine ⟨chain_bwd e0 e1 e2 e3 e, ⟨by omega, ?_, ?_, ?_, ?_, ?_⟩, by omega, by omega, by omega, by omega⟩
  · show a ≤ 3; omega
  · show b < pCells O; omega
  · show 1 ≤ c; omega
  · show c ≤ 9; omega
  · show d < 20; omega
theorem cas_fwd {g : Nat → Nat} {k4 : Nat} (h : nums4 T k = some (g, k4)) (hc : casOK O g) : ∃ k5, casR T O k = some ((g 0, g 1, g 2, g 3), k5) ∧ tAt T k5 = 59 := by
  obtain ⟨c0, c1, c2, c3, c4, c5⟩ := hc
  obtain ⟨k1, k2, k3, k5, e0, e1, e2, e3, e, -⟩ := chain_fwd (l0 := 0) (h0 := 3) (l1 := 0) (h1 := (pCells O : Int) - 1) (l2 := 1) (h2 := 9) (l3 := 0) (h3 := 19) h (by omega) (by omega) (by omega) (by omega)
  exact ⟨k5, casR_4 (by omega) e0 e1 e2 e3, e⟩
theorem mai_bwd {a b c d k4 : Nat} (hp : pOK O) (h : maiR T O k = some ((a, b, c, d), k4)) (e : tAt T k4 = 59) : nums4 T k = some (vec4 a b c d, k4 + 1) ∧ maiOK O (vec4 a b c d) ∧ a < 100 ∧ b < 100 ∧ c < 100 ∧ d < 100 := by
  obtain ⟨q, k1, k2, k3, e0, e1, e2, e3⟩ := maiR_inv h
  have h6 : O.2.2.2.2.2.2 ≤ 3 := hp.2.2.2.2.2.2
  have r0 := numR_some e0
  have r1 := numR_some (moreR_some e1).2
  have r2 := numR_some (moreR_some e2).2
  have r3 := numR_some (moreR_some e3).2
  refine ⟨chain_bwd e0 e1 e2 e3 e, ⟨by omega, ?_, ?_, ?_, ?_, ?_, ?_⟩, by omega, by omega, by omega, by omega⟩
  · show a ≤ 3; omega
  · show d < pCells O; omega
  · show 1 ≤ b; omega
  · show b ≤ 9; omega
  · show 1 ≤ c; omega
  · show c ≤ 9; omega
theorem mai_fwd {g : Nat → Nat} {k4 : Nat} (h : nums4 T k = some (g, k4)) (hc : maiOK O g) : ∃ k5, maiR T O k = some ((g 0, g 1, g 2, g 3), k5) ∧ tAt T k5 = 59 := by
  obtain ⟨c0, c1, c2, c3, c4, c5, c6⟩ := hc
  obtain ⟨k1, k2, k3, k5, e0, e1, e2, e3, e, -⟩ := chain_fwd (l0 := 0) (h0 := 3) (l1 := 1) (h1 := 9) (l2 := 1) (h2 := 9) (l3 := 0) (h3 := (pCells O : Int) - 1) h (by omega) (by omega) (by omega) (by omega)
  exact ⟨k5, maiR_4 (by omega) e0 e1 e2 e3, e⟩
end ITEM
theorem more_b {T : LT} {k v k1 : Nat} {lo hi : Int} (h : moreR T k lo hi = some (v, k1)) : v < 100 ∧ k1 ≤ k + 3 ∧ k ≤ k1 := by
  have h1 := numR_some (moreR_some h).2
  omega
